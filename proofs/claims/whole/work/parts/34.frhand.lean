/-! frames by hand: rows whose label is reckoned -/
theorem fr_fillI (M : Mm) (l n : Nat) (v : Int32) (k j : Nat) (h : k ≠ l) : gI (f_J7_fill_53178 M l n v) k j = gI M k j := by
  unfold f_J7_fill_53178
  exact itr_keepI (fun i z => gI_off k j (fun e => h e.1)) n M
theorem fj_fillI (M : Mm) (l n : Nat) (v : Int32) (k j : Nat) : gJ (f_J7_fill_53178 M l n v) k j = gJ M k j := by
  unfold f_J7_fill_53178
  exact itr_keepJ (fun i z => gJ_sI _ _ _ _ _ _) n M
theorem fr_fillJ (M : Mm) (l n : Nat) (v : Int64) (k j : Nat) : gI (f_J7_fill_d0a16 M l n v) k j = gI M k j := by
  unfold f_J7_fill_d0a16
  exact itr_keepI (fun i z => gI_sJ _ _ _ _ _ _) n M
theorem fj_fillJ (M : Mm) (l n : Nat) (v : Int64) (k j : Nat) (h : k ≠ l) : gJ (f_J7_fill_d0a16 M l n v) k j = gJ M k j := by
  unfold f_J7_fill_d0a16
  exact itr_keepJ (fun i z => gJ_off k j (fun e => h e.1)) n M
/-- what a fill leaves in its row -/
theorem fillI_at (M : Mm) (l : Nat) (v : Int32) (j : Nat) : ∀ n, gI (f_J7_fill_53178 M l n v) l j = if j < n then v else gI M l j := by
  intro n
  unfold f_J7_fill_53178
  induction n with
  | zero => rw [itr_0]; simp
  | succ n ih =>
    rw [itr_s]
    show gI (sI _ l n v) l j = _
    rw [gI_sI]
    by_cases h : j = n
    · subst h
      rw [if_pos ⟨rfl, rfl⟩, if_pos (by omega)]
    · rw [if_neg (fun e => h e.2), ih]
      by_cases h2 : j < n
      · rw [if_pos h2, if_pos (by omega)]
      · rw [if_neg h2, if_neg (by omega)]
theorem fillJ_at (M : Mm) (l : Nat) (v : Int64) (j : Nat) : ∀ n, gJ (f_J7_fill_d0a16 M l n v) l j = if j < n then v else gJ M l j := by
  intro n
  unfold f_J7_fill_d0a16
  induction n with
  | zero => rw [itr_0]; simp
  | succ n ih =>
    rw [itr_s]
    show gJ (sJ _ l n v) l j = _
    rw [gJ_sJ]
    by_cases h : j = n
    · subst h
      rw [if_pos ⟨rfl, rfl⟩, if_pos (by omega)]
    · rw [if_neg (fun e => h e.2), ih]
      by_cases h2 : j < n
      · rw [if_pos h2, if_pos (by omega)]
      · rw [if_neg h2, if_neg (by omega)]
