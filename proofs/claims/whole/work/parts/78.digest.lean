/-! digest -/
theorem itr_cg {σ : Type} {f g : Nat → σ → σ} : ∀ n, (∀ i, i < n → ∀ z, f i z = g i z) → ∀ s, itr f n s = itr g n s
  | 0, _, s => by rw [itr_0, itr_0]
  | n + 1, h, s => by rw [itr_s, itr_s, itr_cg n (fun i hi => h i (by omega)) s, h n (by omega)]
theorem itr_id {σ : Type} {f : Nat → σ → σ} : ∀ n, (∀ i, i < n → ∀ z, f i z = z) → ∀ s, itr f n s = s
  | 0, _, s => itr_0 _ _
  | n + 1, h, s => by rw [itr_s, h n (by omega), itr_id n (fun i hi => h i (by omega)) s]
theorem dg2 {X Y : Mm} (h : Rheap X Y) (s : Int64) : f_X2_foldInto X s = itr (b_X7_digest_1 Y) 10 s := by
  rw [f_X2_foldInto]
  refine itr_cg 10 (fun i hi z => ?_) s
  rw [b_X2_foldInto_1, b_X7_digest_1, f_X6_fold, f_X6_fold, f_X6_fold, h.1, h.2.1, h.2.2.1]
  by_cases c : gI Y 49 i = 0
  · rw [if_pos c, if_pos c]; rfl
  · rw [if_neg c, if_neg c]; rfl
theorem dg0 {X Y : Mm} (h : Rmix X Y) (s : Int64) : f_X0_foldInto X s = itr (b_X7_digest_2 Y) 4 s := by
  rw [f_X0_foldInto]
  refine itr_cg 4 (fun i hi z => ?_) s
  rw [b_X0_foldInto_1, b_X7_digest_2, f_X6_fold, h.2.1, itr_cg (g := b_X7_digest_3 Y i) 4 (fun k hk z => by rw [b_X0_foldInto_2, b_X7_digest_3, f_X6_fold, h.1 i k hi hk]) z]
theorem dg3 {X Y : Mm} (h : Rkiln X Y) (s : Int64) : f_X3_foldInto X s = itr (b_X7_digest_4 Y) 4 s := by
  rw [f_X3_foldInto]
  refine itr_cg 4 (fun i hi z => ?_) s
  rw [b_X3_foldInto_1, b_X7_digest_4, f_X6_fold, f_X6_fold, h.1 i hi, h.2.1 i hi]
theorem dg5 {X Y : Mm} (h : Rlots X Y) (s : Int64) : f_X5_foldInto X s = itr (b_X7_digest_5 Y) 3 s := by
  rw [f_X5_foldInto]
  refine itr_cg 3 (fun i hi z => ?_) s
  obtain ⟨a, b⟩ := h.2.2.2.2.2.2 i hi
  rw [b_X5_foldInto_1, b_X7_digest_5, f_X6_fold, f_X6_fold, a, b]
theorem dg4 {X Y : Mm} (h : Rplan X Y) (s : Int64) : f_X4_foldInto X s = itr (b_X7_digest_8 Y) 24 (itr (b_X7_digest_6 Y) 7 s) := by
  obtain ⟨h1, h2, h3, h4, h5, h6, h7⟩ := h
  have e6 : itr (b_X4_foldInto_1 X) 7 s = itr (b_X7_digest_6 Y) 7 s := by
    refine itr_cg 7 (fun i hi z => ?_) s
    rw [b_X4_foldInto_1, b_X7_digest_6, h1]
    by_cases c : gI Y 67 i = 0
    · rw [if_pos c, if_pos c, itr_id 24 (fun k hk w => by rw [b_X7_digest_7, if_pos c]), f_X6_fold, Int64.sub_eq_add_neg]
    · rw [if_neg c, if_neg c, f_X4_foldRow]
      refine itr_cg 24 (fun k hk w => ?_) z
      rw [b_X4_foldRow_1, b_X7_digest_7, if_neg c, f_X6_fold, h3 i k hi hk]
  rw [f_X4_foldInto, e6, f_X4_foldRow]
  refine itr_cg 24 (fun k hk w => ?_) _
  rw [b_X4_foldRow_1, b_X7_digest_8, f_X6_fold, h5]
theorem sim_digest {X Y : Mm} (hh : Rheap X Y) (hm : Rmix X Y) (hr : Rhour X Y) (hk : Rkiln X Y) (hl : Rlots X Y) (hp : Rplan X Y) : f_X6_digest X = f_X7_digest Y := by
  rw [f_X6_digest, f_X7_digest, l_X7_digest_9, l_X7_digest_8, l_X7_digest_6, l_X7_digest_5, l_X6_digest_1, dg2 hh, dg0 hm, dg3 hk, dg5 hl, dg4 hp]
  refine itr_cg 5 (fun i hi z => ?_) _
  have c := sim_count hh hr hk hp (nI i)
  have w : ¬ f_X6_within (nI i) 0 4 = 0 := wi_one (by rw [nI_int (by omega), show (0 : Int32).toInt = 0 by decide, show (4 : Int32).toInt = 4 by decide]; omega)
  rw [f_X7_count, in_wi, if_neg w] at c
  rw [b_X6_digest_1, b_X7_digest_9, f_X6_fold, c]
