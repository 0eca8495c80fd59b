/-! a relation lasts where its cells last -/
theorem heap_fr {A B A' B' : Mm} (h : Rheap A B) (ka : ∀ k j, (7 ≤ k ∧ k ≤ 10) ∨ (k = 1 ∧ j = 4) → gI A' k j = gI A k j) (kb : ∀ k j, (46 ≤ k ∧ k ≤ 49) ∨ (k = 44 ∧ j = 5) → gI B' k j = gI B k j) : Rheap A' B' := by
  obtain ⟨h1, h2, h3, h4, h5, h6, h7, h8⟩ := h
  refine ⟨fun p => ?_, fun p => ?_, fun p => ?_, fun p => ?_, ?_, ?_, fun i => ?_, fun p hp => ?_⟩
  · rw [ka _ _ (by omega), kb _ _ (by omega)]; exact h1 p
  · rw [ka _ _ (by omega), kb _ _ (by omega)]; exact h2 p
  · rw [ka _ _ (by omega), kb _ _ (by omega)]; exact h3 p
  · rw [ka _ _ (by omega)]; exact h4 p
  · rw [ka _ _ (by omega), kb _ _ (by omega)]; exact h5
  · rw [ka _ _ (by omega)]; exact h6
  · rw [ka _ _ (by omega), kb _ _ (by omega)]; exact h7 i
  · rw [ka _ _ (by omega), ka _ _ (by omega)]; exact h8 p hp
theorem told_fr {A B A' B' : Mm} (h : Rtold A B) (ka : ∀ k j, k = 0 → gJ A' k j = gJ A k j) (kb : ∀ k j, k = 44 → gJ B' k j = gJ B k j) : Rtold A' B' := by
  obtain ⟨h1, h2, h3⟩ := h
  refine ⟨?_, ?_, ?_⟩
  · rw [ka _ _ rfl, kb _ _ rfl]; exact h1
  · rw [ka _ _ rfl, kb _ _ rfl]; exact h2
  · rw [ka _ _ rfl, kb _ _ rfl]; exact h3
theorem found_fr {A B A' B' : Mm} (h : Rfound A B) (ka : ∀ k j, k = 43 ∨ (k = 6 ∧ j = 1) → gI A' k j = gI A k j) (kb : ∀ k j, k = 45 ∨ (k = 44 ∧ j = 0) → gI B' k j = gI B k j) : Rfound A' B' := by
  obtain ⟨h1, h2⟩ := h
  refine ⟨?_, fun f => ?_⟩
  · rw [ka _ _ (by omega), kb _ _ (by omega)]; exact h1
  · rw [ka _ _ (by omega), kb _ _ (by omega)]; exact h2 f
theorem mix_fr {A B A' B' : Mm} (h : Rmix A B) (ka : ∀ k j, (12 ≤ k ∧ k ≤ 16) ∨ (k = 2 ∧ 8 ≤ j) → gI A' k j = gI A k j) (kb : ∀ k j, k = 50 ∨ k = 51 ∨ (k = 44 ∧ 12 ≤ j ∧ j ≤ 15) → gI B' k j = gI B k j) : Rmix A' B' := by
  obtain ⟨a1, a2, a3, a4, a5, a6, a7, a8, a9, a10, a11⟩ := h
  refine ⟨fun s k hs hk => ?_, fun s => ?_, fun s k hs hk => ?_, fun s hs => ?_, ?_, ?_, ?_, ?_, ?_, ?_, ?_⟩
  · rw [ka _ _ (by omega), kb _ _ (by omega)]; exact a1 s k hs hk
  · rw [ka _ _ (by omega), kb _ _ (by omega)]; exact a2 s
  · rw [ka _ _ (by omega)]; exact a3 s k hs hk
  · rw [ka _ _ (by omega)]; exact a4 s hs
  · rw [ka _ _ (by omega), ka _ _ (by omega)]; exact a5
  · rw [ka _ _ (by omega), kb _ _ (by omega)]; exact a6
  · rw [ka _ _ (by omega), kb _ _ (by omega)]; exact a7
  · rw [ka _ _ (by omega), kb _ _ (by omega)]; exact a8
  · rw [ka _ _ (by omega), kb _ _ (by omega)]; exact a9
  · rw [ka _ _ (by omega)]; exact a10
  · rw [ka _ _ (by omega)]; exact a11
theorem hour_fr {A B A' B' : Mm} (h : Rhour A B) (ka : ∀ k j, (17 ≤ k ∧ k ≤ 19) ∨ (k = 2 ∧ 5 ≤ j ∧ j ≤ 7) → gI A' k j = gI A k j) (kb : ∀ k j, k = 52 ∨ k = 55 ∨ (k = 44 ∧ (j = 16 ∨ j = 21)) → gI B' k j = gI B k j) (kj : ∀ k j, k = 53 ∨ k = 54 → gJ B' k j = gJ B k j) : Rhour A' B' := by
  obtain ⟨h1, h2, h3, h4, h5, h6⟩ := h
  have e1 : gI A' 2 5 = gI A 2 5 := ka _ _ (by omega)
  refine ⟨?_, ?_, ?_, fun h hh => ?_, fun h hh => ?_, ?_⟩
  · rw [e1, kb _ _ (by omega)]; exact h1
  · rw [e1]; exact h2
  · rw [ka _ _ (by omega), kb _ _ (by omega)]; exact h3
  · rw [e1] at hh
    rw [ka _ _ (by omega), ka _ _ (by omega), kj _ _ (by omega), kj _ _ (by omega)]; exact h4 h hh
  · rw [e1] at hh
    rw [ka _ _ (by omega), kb _ _ (by omega), kb _ _ (by omega)]; exact h5 h hh
  · rw [ka _ _ (by omega), h6, passed_sm, passed_sm, kb 44 16 (by omega)]
    exact sm_congr _ (fun i hi => by rw [kb _ _ (by omega)])
theorem kiln_fr {A B A' B' : Mm} (h : Rkiln A B) (ka : ∀ k j, k = 20 ∨ k = 21 ∨ k = 24 ∨ (k = 3 ∧ 6 ≤ j ∧ j ≤ 8) → gI A' k j = gI A k j) (kj : ∀ k j, k = 25 → gJ A' k j = gJ A k j) (kb : ∀ k j, k = 56 ∨ k = 57 ∨ k = 60 ∨ (k = 44 ∧ (j = 22 ∨ j = 23 ∨ j = 30)) → gI B' k j = gI B k j) (kbj : ∀ k j, k = 61 → gJ B' k j = gJ B k j) : Rkiln A' B' := by
  obtain ⟨h1, h2, h3, h4, h5, h6, h7, h8, h9, h10⟩ := h
  refine ⟨fun z hz => ?_, fun z hz => ?_, fun w hw => ?_, fun w hw => ?_, ?_, ?_, ?_, ?_, ?_, ?_⟩
  · rw [ka _ _ (by omega), kb _ _ (by omega)]; exact h1 z hz
  · rw [ka _ _ (by omega), kb _ _ (by omega)]; exact h2 z hz
  · rw [ka _ _ (by omega), kb _ _ (by omega)]; exact h3 w hw
  · rw [kj _ _ rfl, kbj _ _ rfl]; exact h4 w hw
  · rw [ka _ _ (by omega), kb _ _ (by omega)]; exact h5
  · rw [ka _ _ (by omega)]; exact h6
  · rw [ka _ _ (by omega), kb _ _ (by omega)]; exact h7
  · rw [ka _ _ (by omega)]; exact h8
  · rw [ka _ _ (by omega), kb _ _ (by omega)]; exact h9
  · rw [ka _ _ (by omega)]; exact h10
theorem plan_fr {A B A' B' : Mm} (h : Rplan A B) (ka : ∀ k j, k = 32 ∨ (34 ≤ k ∧ k ≤ 41) ∨ (k = 5 ∧ j = 4) → gI A' k j = gI A k j) (kb : ∀ k j, (67 ≤ k ∧ k ≤ 69) → gI B' k j = gI B k j) : Rplan A' B' := by
  obtain ⟨h1, h2, h3, h4, h5, h6, h7⟩ := h
  refine ⟨fun d => ?_, fun d => ?_, fun d t hd ht => ?_, fun d t hd ht => ?_, fun t => ?_, fun t ht => ?_, ?_⟩
  · rw [ka _ _ (by omega), kb _ _ (by omega)]; exact h1 d
  · rw [ka _ _ (by omega)]; exact h2 d
  · rw [ka _ _ (by omega), kb _ _ (by omega)]; exact h3 d t hd ht
  · rw [ka _ _ (by omega)]; exact h4 d t hd ht
  · rw [ka _ _ (by omega), kb _ _ (by omega)]; exact h5 t
  · rw [ka _ _ (by omega)]; exact h6 t ht
  · rw [ka _ _ (by omega), counts3_congr (Y := B) (fun q => kb _ _ (by omega))]; exact h7
