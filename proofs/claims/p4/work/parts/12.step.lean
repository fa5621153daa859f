def Inv (h g : HS) : Prop := IC h ∧ IM g
theorem ls_both {α : Type} {x y : Option (α × HS)} {P Q : α × HS → Prop} {c : Prop} (a : ok x P) (b : ok y Q) (hp : ∀ z, P z → IC z.2) (hq : ∀ z, Q z → IM z.2) (hc : ¬ c) : ∃ (r1 : α) (h1 : HS) (r2 : α) (g1 : HS), x = some (r1, h1) ∧ y = some (r2, g1) ∧ Inv h1 g1 ∧ (c → r1 = r2) := by
  obtain ⟨z, e1, k1⟩ := a
  obtain ⟨w, e2, k2⟩ := b
  exact ⟨z.1, z.2, w.1, w.2, e1, e2, ⟨hp z k1, hq w k2⟩, fun h => absurd h hc⟩
theorem ls_market : LS_market (0 = 2) Inv := fun h g p1 p2 p3 i => ls_both (u_X8_market h p1 p2 p3 i.1) (u_X9_market g p1 p2 p3 i.2) (fun z k => k) (fun z k => k.1) (by decide)
theorem ls_goose : LS_goose (1 = 2) Inv := fun h g p1 p2 i => ls_both (u_X8_goose h p1 p2 i.1) (u_X9_goose g p1 p2 i.2) (fun z k => k) (fun z k => k.1) (by decide)
theorem fst_of {α β : Type} {x : Option (α × β)} {w : α × β} {v : α} (e : x = some w) (k : x.map Prod.fst = some v) : w.1 = v := by
  rw [e] at k
  exact Option.some.inj k
theorem ls_store : LS_store (2 = 2) Inv := by
  intro h g p1 p2 i
  obtain ⟨z, e1, k1⟩ := u_X8_store h p1 p2 i.1
  obtain ⟨w, e2, k2⟩ := u_X9_store g p1 p2 i.2
  refine ⟨z.1, z.2, w.1, w.2, e1, e2, ⟨k1.1.1, k2.1.1⟩, fun _ => ?_⟩
  unfold f_X8_store f_X8_store_21 at e1
  unfold f_X9_store f_X9_store_21 f_X9_in f_X9_in_14 f_X9_in_15 at e2
  have c5 : ¬ 99 < p2 ↔ p2 ≤ 99 := ⟨fun c => gi_le (gi_of_nlt c), fun c => gi_nlt (gi_of_le c)⟩
  by_cases c1 : p1 < 0
  · rw [if_pos c1] at e1 e2
    rw [fst_of (v := 0) e1 rfl, fst_of (v := 0) e2 rfl]
  · rw [if_neg c1] at e1 e2
    by_cases c2 : 9999 < p1
    · rw [if_pos c2] at e1 e2
      rw [fst_of (v := 0) e1 rfl, fst_of (v := 0) e2 rfl]
    · rw [if_neg c2] at e1 e2
      by_cases c3 : p2 < 0
      · rw [if_pos c3] at e1 e2
        rw [fst_of (v := 0) e1 rfl, fst_of (v := 0) e2 rfl]
      · rw [if_neg c3] at e1 e2
        by_cases c4 : 99 < p2
        · rw [if_neg (fun c => c5.mpr c c4)] at e1
          rw [if_pos c4] at e2
          rw [fst_of (v := 0) e1 rfl, fst_of (v := 0) e2 rfl]
        · rw [if_pos (c5.mp c4)] at e1
          rw [if_neg c4] at e2
          rw [fst_of (v := 1) e1 rfl, fst_of (v := 1) e2 rfl]
theorem ls_seed : LS_seed (3 = 2) Inv := fun h g p1 i => ls_both (u_X8_seed h p1 i.1) (u_X9_seed g p1 i.2) (fun z k => k.1.1) (fun z k => k.1.1) (by decide)
theorem ls_fill : LS_fill (4 = 2) Inv := fun h g p1 p2 p3 i => ls_both (u_X8_fill h p1 p2 p3 i.1) (u_X9_fill g p1 p2 p3 i.2) (fun z k => k.1.1) (fun z k => k.1.1) (by decide)
theorem ls_send : LS_send (5 = 2) Inv := fun h g p1 p2 i => ls_both (u_X8_send h p1 p2 i.1) (u_X9_send g p1 p2 i.2) (fun z k => k.1.1) (fun z k => k.1.1) (by decide)
theorem ls_fatten : LS_fatten (6 = 2) Inv := fun h g p1 i => ls_both (u_X8_fatten h p1 i.1) (u_X9_fatten g p1 i.2) (fun z k => k.1.1) (fun z k => k.1.1) (by decide)
theorem ls_pluck : LS_pluck (7 = 2) Inv := fun h g p1 i => ls_both (u_X8_pluck h p1 i.1) (u_X9_pluck g p1 i.2) (fun z k => k.1.1) (fun z k => k.1.1) (by decide)
theorem ls_name : LS_name (8 = 2) Inv := fun h g p1 i => ls_both (u_X8_name h p1 i.1) (u_X9_name g p1 i.2) (fun z k => k.1.1) (fun z k => k.1.1) (by decide)
theorem ls_pass : LS_pass (9 = 2) Inv := fun h g p1 i => ls_both (u_X8_pass h p1 i.1) (u_X9_pass g p1 i.2) (fun z k => k.1.1) (fun z k => k.1.1) (by decide)
theorem ls_feed : LS_feed (10 = 2) Inv := fun h g p1 p2 p3 p4 p5 i => ls_both (u_X8_feed h p1 p2 p3 p4 p5 i.1) (u_X9_feed g p1 p2 p3 p4 p5 i.2) (fun z k => k.1.1) (fun z k => k.1.1) (by decide)
theorem ls_end : LS_end (11 = 2) Inv := fun h g p1 i => ls_both (u_X8_end h p1 i.1) (u_X9_end g p1 i.2) (fun z k => k.1.1) (fun z k => k.1.1) (by decide)
theorem ls_text : LS_text (12 = 2) Inv := fun h g  i => ls_both (u_X8_text h  i.1) (u_X9_text g  i.2) (fun z k => k.1.1) (fun z k => k.1) (by decide)
theorem ls_fault : LS_fault (13 = 2) Inv := fun h g p1 i => ls_both (u_X8_fault h p1 i.1) (u_X9_fault g p1 i.2) (fun z k => by rw [k.1]; exact i.1) (fun z k => by rw [k.1]; exact i.2) (by decide)
theorem ls_by : LS_by (14 = 2) Inv := fun h g p1 i => ls_both (u_X8_by h p1 i.1) (u_X9_by g p1 i.2) (fun z k => k.1.1) (fun z k => k) (by decide)
theorem ls_played : LS_played (15 = 2) Inv := fun h g p1 i => ls_both (u_X8_played h p1 i.1) (u_X9_played g p1 i.2) (fun z k => k.1.1) (fun z k => k.1.1) (by decide)
theorem ls_undo : LS_undo (16 = 2) Inv := fun h g  i => ls_both (u_X8_undo h  i.1) (u_X9_undo g  i.2) (fun z k => k.1.1) (fun z k => k.1.1) (by decide)
theorem ls_of : LS_of (17 = 2) Inv := fun h g p1 p2 i => ls_both (u_X8_of h p1 p2 i.1) (u_X9_of g p1 p2 i.2) (fun z k => k.1.1) (fun z k => k.1.1) (by decide)
theorem ls_ink : LS_ink (18 = 2) Inv := fun h g p1 p2 p3 i => ls_both (u_X8_ink h p1 p2 p3 i.1) (u_X9_ink g p1 p2 p3 i.2) (fun z k => k.1.1) (fun z k => k.1.1) (by decide)
theorem ls_known : LS_known (19 = 2) Inv := fun h g p1 p2 i => ls_both (u_X8_known h p1 p2 i.1) (u_X9_known g p1 p2 i.2) (fun z k => k.1.1) (fun z k => k.1.1) (by decide)
theorem ls_led : LS_led (20 = 2) Inv := fun h g p1 p2 i => ls_both (u_X8_led h p1 p2 i.1) (u_X9_led g p1 p2 i.2) (fun z k => k.1.1) (fun z k => k.1.1) (by decide)
theorem ls_answer : LS_answer (21 = 2) Inv := fun h g p1 i => ls_both (u_X8_answer h p1 i.1) (u_X9_answer g p1 i.2) (fun z k => k.1.1) (fun z k => k.1.1) (by decide)
theorem ls_plucks : LS_plucks (22 = 2) Inv := fun h g p1 i => ls_both (u_X8_plucks h p1 i.1) (u_X9_plucks g p1 i.2) (fun z k => k.1.1) (fun z k => k.1.1) (by decide)
theorem ls_odds : LS_odds (23 = 2) Inv := fun h g p1 p2 p3 i => ls_both (u_X8_odds h p1 p2 p3 i.1) (u_X9_odds g p1 p2 p3 i.2) (fun z k => k.1.1) (fun z k => k.1.1) (by decide)
theorem ls_plan : LS_plan (24 = 2) Inv := fun h g p1 p2 p3 i => ls_both (u_X8_plan h p1 p2 p3 i.1) (u_X9_plan g p1 p2 p3 i.2) (fun z k => k.1.1) (fun z k => k.1) (by decide)
theorem ls_holds : LS_holds (25 = 2) Inv := fun h g  i => ls_both (u_X8_holds h  i.1) (u_X9_holds g  i.2) (fun z k => by rw [k.1]; exact i.1) (fun z k => by rw [k.1]; exact i.2) (by decide)
theorem ls_image : LS_image (26 = 2) Inv := fun h g  i => ls_both (u_X8_image h  i.1) (u_X9_image g  i.2) (fun z k => k) (fun z k => k) (by decide)
theorem ls_back : LS_back (27 = 2) Inv := fun h g  i => ls_both (u_X8_back h  i.1) (u_X9_back g  i.2) (fun z k => k) (fun z k => k) (by decide)
theorem ls_about : LS_about (28 = 2) Inv := fun h g p1 i => ls_both (u_X8_about h p1 i.1) (u_X9_about g p1 i.2) (fun z k => by rw [k.1]; exact i.1) (fun z k => by rw [k.1]; exact i.2) (by decide)
theorem law_step : LawStep (fun k => k = 2) Inv := ⟨ls_market, ls_goose, ls_store, ls_seed, ls_fill, ls_send, ls_fatten, ls_pluck, ls_name, ls_pass, ls_feed, ls_end, ls_text, ls_fault, ls_by, ls_played, ls_undo, ls_of, ls_ink, ls_known, ls_led, ls_answer, ls_plucks, ls_odds, ls_plan, ls_holds, ls_image, ls_back, ls_about⟩
