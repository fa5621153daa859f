theorem m_1151 : Cond.instantiable RX8 8 ∈ lwc := nv_1 (nthP_mem (i := 18) rfl) rfl
theorem m_1152 : Cond.instantiable RX9 53 ∈ lwc := nv_4 (nthP_mem (i := 160) rfl) rfl
theorem m_1153 : Cond.classLink RL 7 RX8 ∈ lwc := nv_1 (nthP_mem (i := 17) rfl) rfl
theorem m_1154 : Cond.code yX8_init cX8_init 1 none ∈ lwc := nv_1 (nthP_mem (i := 21) rfl) rfl
theorem m_1155 : Cond.methodLink RL 9 yX8_init ∈ lwc := nv_1 (nthP_mem (i := 19) rfl) rfl
theorem m_1156 : Cond.instanceMethod yX8_init ∈ lwc := nv_1 (nthP_mem (i := 20) rfl) rfl
theorem m_1157 : Cond.classLink RL 10 RX9 ∈ lwc := nv_4 (nthP_mem (i := 159) rfl) rfl
theorem m_1158 : Cond.code yX9_init cX9_init 1 none ∈ lwc := nv_4 (nthP_mem (i := 163) rfl) rfl
theorem m_1159 : Cond.methodLink RL 12 yX9_init ∈ lwc := nv_4 (nthP_mem (i := 161) rfl) rfl
theorem m_1160 : Cond.instanceMethod yX9_init ∈ lwc := nv_4 (nthP_mem (i := 162) rfl) rfl
