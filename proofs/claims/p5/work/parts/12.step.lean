def Inv (h g : HS) : Prop := IC h ∧ IM g
theorem ls_both {α : Type} {x y : Option (α × HS)} {P Q : α × HS → Prop} {c : Prop} (a : ok x P) (b : ok y Q) (hp : ∀ z, P z → IC z.2) (hq : ∀ z, Q z → IM z.2) (hc : ¬ c) : ∃ (r1 : α) (h1 : HS) (r2 : α) (g1 : HS), x = some (r1, h1) ∧ y = some (r2, g1) ∧ Inv h1 g1 ∧ (c → r1 = r2) := by
  obtain ⟨z, e1, k1⟩ := a
  obtain ⟨w, e2, k2⟩ := b
  exact ⟨z.1, z.2, w.1, w.2, e1, e2, ⟨hp z k1, hq w k2⟩, fun h => absurd h hc⟩
theorem ls_market : LS_market (0 = 3) Inv := fun h g p1 p2 p3 i => ls_both (u_X8_market h p1 p2 p3 i.1) (u_X9_market g p1 p2 p3 i.2) (fun z k => k) (fun z k => k.1) (by decide)
theorem ls_goose : LS_goose (1 = 3) Inv := fun h g p1 p2 i => ls_both (u_X8_goose h p1 p2 i.1) (u_X9_goose g p1 p2 i.2) (fun z k => k) (fun z k => k.1) (by decide)
theorem ls_store : LS_store (2 = 3) Inv := fun h g p1 p2 i => ls_both (u_X8_store h p1 p2 i.1) (u_X9_store g p1 p2 i.2) (fun z k => k.1.1) (fun z k => k.1.1) (by decide)
theorem ls_seed : LS_seed (3 = 3) Inv := by
  intro h g p1 i
  unfold f_X8_seed f_X8_seed_11 f_X9_seed f_X9_in f_X9_in_14 f_X9_in_15
  by_cases c1 : p1 < 0
  · refine ⟨0, h, 0, g, ?_, ?_, i, fun _ => rfl⟩
    · rw [if_pos c1]
    · rw [if_pos c1]; rfl
  · rw [if_neg c1, if_neg c1]
    by_cases c2 : p1 ≤ 9999
    · have c3 : ¬ 9999 < p1 := gi_nlt (gi_of_le c2)
      refine ⟨1, _, 1, sA g 0 0 (upd (eA g 0 0) 122 ((p1 * 11) + 9)), if_pos c2, ?_, ⟨?_, ?_⟩, fun _ => rfl⟩
      · rw [if_neg c3]; rfl
      · exact i.1
      · exact (sw_row (SW_refl i.2) (RO_free i.2.2.1 (by decide)) rfl rfl rfl).1
    · have c3 : 9999 < p1 := gi_lt (gi_of_nle c2)
      refine ⟨0, h, 0, g, ?_, ?_, i, fun _ => rfl⟩
      · rw [if_neg c2]
      · rw [if_pos c3]; rfl
theorem ls_fill : LS_fill (4 = 3) Inv := fun h g p1 p2 p3 i => ls_both (u_X8_fill h p1 p2 p3 i.1) (u_X9_fill g p1 p2 p3 i.2) (fun z k => k.1.1) (fun z k => k.1.1) (by decide)
theorem ls_send : LS_send (5 = 3) Inv := fun h g p1 p2 i => ls_both (u_X8_send h p1 p2 i.1) (u_X9_send g p1 p2 i.2) (fun z k => k.1.1) (fun z k => k.1.1) (by decide)
theorem ls_fatten : LS_fatten (6 = 3) Inv := fun h g p1 i => ls_both (u_X8_fatten h p1 i.1) (u_X9_fatten g p1 i.2) (fun z k => k.1.1) (fun z k => k.1.1) (by decide)
theorem ls_pluck : LS_pluck (7 = 3) Inv := fun h g p1 i => ls_both (u_X8_pluck h p1 i.1) (u_X9_pluck g p1 i.2) (fun z k => k.1.1) (fun z k => k.1.1) (by decide)
theorem ls_name : LS_name (8 = 3) Inv := fun h g p1 i => ls_both (u_X8_name h p1 i.1) (u_X9_name g p1 i.2) (fun z k => k.1.1) (fun z k => k.1.1) (by decide)
theorem ls_pass : LS_pass (9 = 3) Inv := fun h g p1 i => ls_both (u_X8_pass h p1 i.1) (u_X9_pass g p1 i.2) (fun z k => k.1.1) (fun z k => k.1.1) (by decide)
theorem ls_feed : LS_feed (10 = 3) Inv := fun h g p1 p2 p3 p4 p5 i => ls_both (u_X8_feed h p1 p2 p3 p4 p5 i.1) (u_X9_feed g p1 p2 p3 p4 p5 i.2) (fun z k => k.1.1) (fun z k => k.1.1) (by decide)
theorem ls_end : LS_end (11 = 3) Inv := fun h g p1 i => ls_both (u_X8_end h p1 i.1) (u_X9_end g p1 i.2) (fun z k => k.1.1) (fun z k => k.1.1) (by decide)
theorem ls_text : LS_text (12 = 3) Inv := fun h g  i => ls_both (u_X8_text h  i.1) (u_X9_text g  i.2) (fun z k => k.1.1) (fun z k => k.1) (by decide)
theorem ls_fault : LS_fault (13 = 3) Inv := fun h g p1 i => ls_both (u_X8_fault h p1 i.1) (u_X9_fault g p1 i.2) (fun z k => by rw [k.1]; exact i.1) (fun z k => by rw [k.1]; exact i.2) (by decide)
theorem ls_by : LS_by (14 = 3) Inv := fun h g p1 i => ls_both (u_X8_by h p1 i.1) (u_X9_by g p1 i.2) (fun z k => k.1.1) (fun z k => k) (by decide)
theorem ls_played : LS_played (15 = 3) Inv := fun h g p1 i => ls_both (u_X8_played h p1 i.1) (u_X9_played g p1 i.2) (fun z k => k.1.1) (fun z k => k.1.1) (by decide)
theorem ls_undo : LS_undo (16 = 3) Inv := fun h g  i => ls_both (u_X8_undo h  i.1) (u_X9_undo g  i.2) (fun z k => k.1.1) (fun z k => k.1.1) (by decide)
theorem ls_of : LS_of (17 = 3) Inv := fun h g p1 p2 i => ls_both (u_X8_of h p1 p2 i.1) (u_X9_of g p1 p2 i.2) (fun z k => k.1.1) (fun z k => k.1.1) (by decide)
theorem ls_ink : LS_ink (18 = 3) Inv := fun h g p1 p2 p3 i => ls_both (u_X8_ink h p1 p2 p3 i.1) (u_X9_ink g p1 p2 p3 i.2) (fun z k => k.1.1) (fun z k => k.1.1) (by decide)
theorem ls_known : LS_known (19 = 3) Inv := fun h g p1 p2 i => ls_both (u_X8_known h p1 p2 i.1) (u_X9_known g p1 p2 i.2) (fun z k => k.1.1) (fun z k => k.1.1) (by decide)
theorem ls_led : LS_led (20 = 3) Inv := fun h g p1 p2 i => ls_both (u_X8_led h p1 p2 i.1) (u_X9_led g p1 p2 i.2) (fun z k => k.1.1) (fun z k => k.1.1) (by decide)
theorem ls_answer : LS_answer (21 = 3) Inv := fun h g p1 i => ls_both (u_X8_answer h p1 i.1) (u_X9_answer g p1 i.2) (fun z k => k.1.1) (fun z k => k.1.1) (by decide)
theorem ls_plucks : LS_plucks (22 = 3) Inv := fun h g p1 i => ls_both (u_X8_plucks h p1 i.1) (u_X9_plucks g p1 i.2) (fun z k => k.1.1) (fun z k => k.1.1) (by decide)
theorem ls_odds : LS_odds (23 = 3) Inv := fun h g p1 p2 p3 i => ls_both (u_X8_odds h p1 p2 p3 i.1) (u_X9_odds g p1 p2 p3 i.2) (fun z k => k.1.1) (fun z k => k.1.1) (by decide)
theorem ls_plan : LS_plan (24 = 3) Inv := fun h g p1 p2 p3 i => ls_both (u_X8_plan h p1 p2 p3 i.1) (u_X9_plan g p1 p2 p3 i.2) (fun z k => k.1.1) (fun z k => k.1) (by decide)
theorem ls_holds : LS_holds (25 = 3) Inv := fun h g  i => ls_both (u_X8_holds h  i.1) (u_X9_holds g  i.2) (fun z k => by rw [k.1]; exact i.1) (fun z k => by rw [k.1]; exact i.2) (by decide)
theorem ls_image : LS_image (26 = 3) Inv := fun h g  i => ls_both (u_X8_image h  i.1) (u_X9_image g  i.2) (fun z k => k) (fun z k => k) (by decide)
theorem ls_back : LS_back (27 = 3) Inv := fun h g  i => ls_both (u_X8_back h  i.1) (u_X9_back g  i.2) (fun z k => k) (fun z k => k) (by decide)
theorem ls_about : LS_about (28 = 3) Inv := fun h g p1 i => ls_both (u_X8_about h p1 i.1) (u_X9_about g p1 i.2) (fun z k => by rw [k.1]; exact i.1) (fun z k => by rw [k.1]; exact i.2) (by decide)
theorem law_step : LawStep (fun k => k = 3) Inv := ⟨ls_market, ls_goose, ls_store, ls_seed, ls_fill, ls_send, ls_fatten, ls_pluck, ls_name, ls_pass, ls_feed, ls_end, ls_text, ls_fault, ls_by, ls_played, ls_undo, ls_of, ls_ink, ls_known, ls_led, ls_answer, ls_plucks, ls_odds, ls_plan, ls_holds, ls_image, ls_back, ls_about⟩
