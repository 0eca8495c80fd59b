/-! bags: the loops -/
theorem pr_tr {α β : Type} {p q : α × β} {a : α} {b : β} (h : p = (q.1, q.2)) (h2 : q = (a, b)) : p = (a, b) := by rw [h, h2]
def Jb (Y : Mm) (k : Nat) (z w : Int32 × Mm) : Prop := z.1 = w.1 ∧ Rlots z.2 w.2 ∧ Rbag z.2 w.2 ∧ (gI w.2 44 35).toInt ≤ k ∧ nl w.2 = nl Y ∧ (∀ q, gI w.2 63 q = gI Y 63 q)
theorem i_pos {x : Int32} (h : ¬ x ≤ 0) : 0 < x.toInt := by
  rw [Int32.not_le, Int32.lt_iff_toInt_lt, show (0 : Int32).toInt = 0 by decide] at h
  exact h
theorem jb_step {Y : Mm} {u : Int32} {k t : Nat} (hk : k < nl Y) (h500 : nl Y ≤ 500) (et : (gI Y 63 k).toNatClampNeg = t) {z w : Int32 × Mm} (h : Jb Y k z w) : Jb Y (k + 1) (b_X5_fill_1 u t z) (b_X7_bag_1 u k w) := by
  obtain ⟨a1, a2, a3, a4, a5, a6⟩ := h
  have hk' : k < nl w.2 := by rw [a5]; exact hk
  have et' : (gI w.2 63 k).toNatClampNeg = t := by rw [a6]; exact et
  obtain ⟨c1, c2⟩ := a2.2.2.2.1 k hk'
  rw [et'] at c1 c2
  by_cases c : z.1 ≤ 0 ∨ ¬ gI z.2 26 t = u ∨ gI z.2 27 t ≤ 0
  · rw [fl_id c, bg_id (by rw [← a1, ← c1, ← c2]; exact c)]
    exact ⟨a1, a2, a3, by omega, a5, a6⟩
  · have d0 : ¬ z.1 ≤ 0 := fun q => c (Or.inl q)
    have d1 : gI z.2 26 t = u := Classical.byContradiction (fun q => c (Or.inr (Or.inl q)))
    have d2 : ¬ gI z.2 27 t ≤ 0 := fun q => c (Or.inr (Or.inr q))
    have b4 := a3.2.1
    have b5 := a3.1
    have tl := take_lots a2 hk' et' (u := z.1) (i_pos d0) (by rw [← c2]; exact i_pos d2)
    have tb := take_bag a2 a3 hk' (by omega) et' (u := z.1)
    have em : (if w.1 ≤ gI w.2 64 k then w.1 else gI w.2 64 k) = mn z.2 t z.1 := by
      unfold mn
      rw [mn_eq, c2, a1]
    have ct : (nI t).toNatClampNeg = t := by
      have q := (a2.2.1 k hk').1
      rw [← et', nI_of_clamp (by rw [Int32.le_iff_toInt_le]; exact q)]
    rw [fl_eq d0 d1 d2, bg_eq (by rw [← a1]; exact d0) (by rw [← c1]; exact d1) (by rw [← c2]; exact d2), em, tk_fst, ct]
    refine ⟨by rw [a1], tl, tb, ?_, ?_, fun q => ?_⟩
    · have e := bg35 w.2 k (mn z.2 t z.1)
      rw [← b5] at a4
      show (gI (bgM w.2 k (mn z.2 t z.1)) 44 35).toInt ≤ _
      rw [e, ← b5, add1_int b4.1 (by omega)]
      omega
    · show nl (bgM w.2 k (mn z.2 t z.1)) = _
      rw [← a5]
      unfold nl
      rw [bgO _ _ _ 44 31 (by decide)]
    · show gI (bgM w.2 k (mn z.2 t z.1)) 63 q = _
      rw [bgO _ _ _ 63 q (by omega)]
      exact a6 q
def Ib (Y : Mm) (u : Int32) (w : Int32 × Mm) (t : Nat) (z : Int32 × Mm) : Prop := ∃ k, k ≤ nl Y ∧ (∀ l, l < k → (gI Y 63 l).toNatClampNeg < t) ∧ (∀ l, k ≤ l → l < nl Y → t ≤ (gI Y 63 l).toNatClampNeg) ∧ Jb Y k z (itr (b_X7_bag_1 u) k w)
theorem ib_step {X Y : Mm} (hl : Rlots X Y) (h500 : nl Y ≤ 500) {u : Int32} {w : Int32 × Mm} {t : Nat} {z : Int32 × Mm} (h : Ib Y u w t z) : Ib Y u w (t + 1) (b_X5_fill_1 u t z) := by
  obtain ⟨k, h1, h2, h3, h4⟩ := h
  have mono : ∀ a b, a < b → b < nl Y → (gI Y 63 a).toNatClampNeg < (gI Y 63 b).toNatClampNeg := fun a b q1 q2 => by
    have := hl.2.2.1 a b q1 q2
    have := (hl.2.1 a (by omega)).1
    rw [clamp_eq, clamp_eq]
    omega
  by_cases c : k < nl Y ∧ (gI Y 63 k).toNatClampNeg = t
  · refine ⟨k + 1, by omega, fun l q => ?_, fun l q1 q2 => ?_, ?_⟩
    · by_cases e : l = k
      · rw [e, c.2]; omega
      · have := h2 l (by omega)
        omega
    · have := mono k l (by omega) q2
      omega
    · rw [itr_s]
      exact jb_step c.1 h500 c.2 h4
  · have z27 : gI z.2 27 t = 0 := by
      rcases h4.2.1.2.2.2.2.1 t with ⟨l, q1, q2⟩ | q
      · rw [h4.2.2.2.2.1] at q1
        rw [h4.2.2.2.2.2] at q2
        by_cases e : l < k
        · have := h2 l e
          omega
        · by_cases e2 : l = k
          · rw [e2] at q1 q2
            exact absurd ⟨q1, q2⟩ c
          · have := mono k l (by omega) q1
            have := h3 k (Nat.le_refl _) (by omega)
            omega
      · exact q
    rw [fl_id (Or.inr (Or.inr (by rw [z27]; decide)))]
    refine ⟨k, h1, fun l q => ?_, fun l q1 q2 => ?_, h4⟩
    · have := h2 l q
      omega
    · have := h3 l q1 q2
      have : ¬ (gI Y 63 l).toNatClampNeg = t := fun e => by
        by_cases e2 : l = k
        · rw [e2] at q2 e
          exact c ⟨q2, e⟩
        · have := mono k l (by omega) q2
          have := h3 k (Nat.le_refl _) (by omega)
          omega
      omega
theorem ib_all {X Y : Mm} (hl : Rlots X Y) (hs : (gI X 3 6).toInt ≤ 500) {u n : Int32} {x y : Mm} (h0 : Jb Y 0 (n, x) (n, y)) : Jb Y (nl Y) (itr (b_X5_fill_1 u) 500 (n, x)) (itr (b_X7_bag_1 u) (nl Y) (n, y)) := by
  have h500 : nl Y ≤ 500 := by
    have := hl.1
    unfold nl
    rw [clamp_eq]
    omega
  have key := itr_inv (f := b_X5_fill_1 u) (N := 500) (Ib Y u (n, y)) (fun t z ht hz => ib_step hl h500 hz) (z := (n, x)) ⟨0, by omega, fun l q => absurd q (by omega), fun l _ _ => by omega, by rw [itr_0]; exact h0⟩ 500 (Nat.le_refl _)
  obtain ⟨k, k1, k2, k3, k4⟩ := key
  have e : k = nl Y := by
    by_cases q : k < nl Y
    · have a := k3 k (Nat.le_refl _) q
      have b := hl.2.1 k q
      rw [clamp_eq] at a
      omega
    · omega
  rw [e] at k4
  exact k4
/-! bags: the model's loop ends -/
theorem lotv_int {X Y : Mm} (hl : Rlots X Y) (u : Int32) {k : Nat} (hk : k < nl Y) : (lotv Y u 0 k).toInt = (if gI Y 62 k = u then (gI Y 64 k).toInt else 0) ∧ 0 ≤ (lotv Y u 0 k).toInt ∧ (lotv Y u 0 k).toInt ≤ 500000 := by
  have r := (hl.2.2.2.2.2.1 k hk).1
  have e : (lotv Y u 0 k).toInt = (if gI Y 62 k = u then (gI Y 64 k).toInt else 0) := by
    unfold lotv
    by_cases c : gI Y 62 k = u
    · rw [if_pos c, if_pos c, if_pos rfl]
      by_cases z : gI Y 64 k = 0
      · rw [if_pos z, z]
      · rw [if_neg z]
    · rw [if_neg c, if_neg c]; decide
  refine ⟨e, ?_⟩
  rw [e]
  by_cases c : gI Y 62 k = u
  · rw [if_pos c]; exact r
  · rw [if_neg c]; omega
theorem sm_int {X Y : Mm} (hl : Rlots X Y) (hs : nl Y ≤ 500) (u : Int32) : ∀ k, k ≤ nl Y → 0 ≤ (sm (lotv Y u 0) k).toInt ∧ (sm (lotv Y u 0) k).toInt ≤ 500000 * (k : Int)
  | 0, _ => by rw [sm_0]; decide
  | k + 1, h => by
    have a := sm_int hl hs u k (by omega)
    have b := (lotv_int hl u (k := k) (by omega)).2
    have e : (sm (lotv Y u 0) k + lotv Y u 0 k).toInt = (sm (lotv Y u 0) k).toInt + (lotv Y u 0 k).toInt := by
      rw [Int32.toInt_add]
      apply Int.bmod_eq_of_le <;> omega
    rw [sm_s, e]
    push_cast
    omega
theorem sm_int_s {X Y : Mm} (hl : Rlots X Y) (hs : nl Y ≤ 500) (u : Int32) {k : Nat} (h : k < nl Y) : (sm (lotv Y u 0) (k + 1)).toInt = (sm (lotv Y u 0) k).toInt + (if gI Y 62 k = u then (gI Y 64 k).toInt else 0) := by
  have a := sm_int hl hs u k (by omega)
  obtain ⟨c, b⟩ := lotv_int hl u h
  rw [sm_s, Int32.toInt_add, ← c]
  apply Int.bmod_eq_of_le <;> omega
theorem bag_end {X Y : Mm} (hl : Rlots X Y) (hs : nl Y ≤ 500) {u n : Int32} (hn : 0 ≤ n.toInt) (hi : n ≤ f_X7_inSilo Y u 0) : (itr (b_X7_bag_1 u) (nl Y) (n, sI Y 44 35 (0 : Int32))).1 ≤ 0 := by
  have key := itr_inv (f := b_X7_bag_1 u) (N := nl Y) (fun k w => (∀ l, k ≤ l → gI w.2 64 l = gI Y 64 l) ∧ (∀ l, gI w.2 62 l = gI Y 62 l) ∧ 0 ≤ w.1.toInt ∧ (w.1.toInt = 0 ∨ w.1.toInt + (sm (lotv Y u 0) k).toInt = n.toInt)) (fun k w hk hw => by
    obtain ⟨a1, a2, a3, a4⟩ := hw
    have ss := sm_int_s hl hs u hk
    have e64 := a1 k (Nat.le_refl _)
    have e62 := a2 k
    by_cases c : w.1 ≤ 0 ∨ ¬ gI w.2 62 k = u ∨ gI w.2 64 k ≤ 0
    · rw [bg_id c]
      refine ⟨fun l q => a1 l (by omega), a2, a3, ?_⟩
      rcases a4 with q | q
      · exact Or.inl q
      · rcases c with r | r | r
        · have := Int32.le_iff_toInt_le.mp r
          rw [show (0 : Int32).toInt = 0 by decide] at this
          exact Or.inl (by omega)
        · rw [e62] at r
          rw [if_neg r] at ss
          exact Or.inr (by omega)
        · rw [e64] at r
          have := Int32.le_iff_toInt_le.mp r
          rw [show (0 : Int32).toInt = 0 by decide] at this
          have b := (hl.2.2.2.2.2.1 k hk).1.1
          refine Or.inr ?_
          by_cases g : gI Y 62 k = u
          · rw [if_pos g] at ss; omega
          · rw [if_neg g] at ss; omega
    · have d0 : ¬ w.1 ≤ 0 := fun q => c (Or.inl q)
      have d1 : gI w.2 62 k = u := Classical.byContradiction (fun q => c (Or.inr (Or.inl q)))
      have d2 : ¬ gI w.2 64 k ≤ 0 := fun q => c (Or.inr (Or.inr q))
      rw [bg_eq d0 d1 d2]
      have p0 := i_pos d0
      have p2 := i_pos d2
      refine ⟨fun l q => ?_, fun l => ?_, ?_⟩
      · show gI (bgM w.2 k _) 64 l = _
        rw [bg64, if_neg (by omega)]
        exact a1 l (by omega)
      · show gI (bgM w.2 k _) 62 l = _
        rw [bgO _ _ _ 62 l (by omega)]
        exact a2 l
      · show 0 ≤ (w.1 - (if w.1 ≤ gI w.2 64 k then w.1 else gI w.2 64 k)).toInt ∧ ((w.1 - (if w.1 ≤ gI w.2 64 k then w.1 else gI w.2 64 k)).toInt = 0 ∨ (w.1 - (if w.1 ≤ gI w.2 64 k then w.1 else gI w.2 64 k)).toInt + _ = _)
        by_cases g : w.1 ≤ gI w.2 64 k
        · rw [if_pos g, Int32.sub_self]
          exact ⟨by decide, Or.inl (by decide)⟩
        · rw [if_neg g]
          have g' := Int32.not_le.mp g
          rw [Int32.lt_iff_toInt_lt] at g'
          have hw := w.1.toInt_lt
          have es : (w.1 - gI w.2 64 k).toInt = w.1.toInt - (gI w.2 64 k).toInt := by
            rw [Int32.toInt_sub]
            apply Int.bmod_eq_of_le <;> omega
          rw [es, ss, ← e62, if_pos d1, ← e64]
          refine ⟨by omega, ?_⟩
          rcases a4 with q | q
          · omega
          · exact Or.inr (by omega)) (z := (n, sI Y 44 35 (0 : Int32))) ⟨fun l _ => by
      show gI (sI Y 44 35 _) 64 l = _
      rw [gI_ne (by decide)], fun l => by
      show gI (sI Y 44 35 _) 62 l = _
      rw [gI_ne (by decide)], hn, Or.inr (by rw [sm_0, show (0 : Int32).toInt = 0 by decide]; show n.toInt + 0 = n.toInt; omega)⟩ (nl Y) (Nat.le_refl _)
  obtain ⟨-, -, k3, k4⟩ := key
  rw [inSilo_sm, Int32.le_iff_toInt_le] at hi
  rw [Int32.le_iff_toInt_le, show (0 : Int32).toInt = 0 by decide]
  omega
theorem bag_stay {u : Int32} {w : Int32 × Mm} {k : Nat} (h : (itr (b_X7_bag_1 u) k w).1 ≤ 0) : ∀ m, itr (b_X7_bag_1 u) (k + m) w = itr (b_X7_bag_1 u) k w
  | 0 => rfl
  | m + 1 => by
    rw [← Nat.add_assoc, itr_s, bag_stay h m, bg_id (Or.inl h)]
theorem bag_500 {X Y : Mm} (hl : Rlots X Y) (hs : nl Y ≤ 500) {u n : Int32} (hn : 0 ≤ n.toInt) (hi : n ≤ f_X7_inSilo Y u 0) : itr (b_X7_bag_1 u) 500 (n, sI Y 44 35 (0 : Int32)) = itr (b_X7_bag_1 u) (nl Y) (n, sI Y 44 35 (0 : Int32)) := by
  have e := bag_stay (bag_end hl hs hn hi) (500 - nl Y)
  rw [show nl Y + (500 - nl Y) = 500 by omega] at e
  exact e
/-- what c_X7_bag asks for -/
theorem bag_hyp {X Y : Mm} (hl : Rlots X Y) (hs : (gI X 3 6).toInt ≤ 500) {u n : Int32} (hn : 0 ≤ n.toInt) (hi : n ≤ f_X7_inSilo Y u 0) : (itr (b_X7_bag_1 u) 500 (n, sI Y 44 35 (0 : Int32))).1 ≤ 0 := by
  have h500 : nl Y ≤ 500 := by
    have := hl.1
    unfold nl
    rw [clamp_eq]
    omega
  rw [bag_500 hl h500 hn hi]
  exact bag_end hl h500 hn hi
theorem fillX (X : Mm) (u n : Int32) : f_X5_fill X u n = (gI (itr (b_X5_fill_1 u) 500 (n, sI X 4 6 (0 : Int32))).2 4 6, (itr (b_X5_fill_1 u) 500 (n, sI X 4 6 (0 : Int32))).2) := by
  rw [f_X5_fill, l_X5_fill_1]
theorem bagX {X : Mm} {u n : Int32} (c1 : ¬ f_X6_within u 0 2 = 0) (c2 : ¬ f_X6_within n 1 10000 = 0) (c3 : n ≤ gI X 28 u.toNatClampNeg) : f_X6_bag X u n = ((f_X5_fill X u n).1, (f_X5_fill X u n).2) := by
  rw [f_X6_bag, if_neg c1, if_neg c2, f_X5_tonsIn, if_pos c3]
theorem bagY {Y : Mm} {u n : Int32} (c1 : ¬ f_X6_within u 0 2 = 0) (c2 : ¬ f_X6_within n 1 10000 = 0) (c3 : n ≤ f_X7_inSilo Y u 0) {W : Int32 × Mm} (hW : itr (b_X7_bag_1 u) 500 (n, sI Y 44 35 (0 : Int32)) = W) : f_X7_bag Y u n = (gI W.2 44 35, W.2) := by
  rw [f_X7_bag, in_wi, in_wi, if_neg c1, if_neg c2, if_pos c3, l_X7_bag_1, hW]
theorem bag_j {X Y : Mm} (hl : Rlots X Y) (hs : (gI X 3 6).toInt ≤ 500) (u n : Int32) : Jb Y (nl Y) (itr (b_X5_fill_1 u) 500 (n, sI X 4 6 (0 : Int32))) (itr (b_X7_bag_1 u) (nl Y) (n, sI Y 44 35 (0 : Int32))) :=
  ib_all (u := u) (n := n) (x := sI X 4 6 (0 : Int32)) (y := sI Y 44 35 (0 : Int32)) hl hs ⟨rfl, lots_fr hl (fun k j q => by
        show gI (sI X 4 6 _) k j = _
        rw [gI_ne (by omega)]) (fun k j q => by
        show gI (sI Y 44 35 _) k j = _
        rw [gI_off k j (by omega)]), ⟨by
        show gI (sI X 4 6 _) 4 6 = gI (sI Y 44 35 _) 44 35
        rw [gI_at, gI_at], by
        show 0 ≤ (gI (sI X 4 6 _) 4 6).toInt ∧ (gI (sI X 4 6 _) 4 6).toInt ≤ 500
        rw [gI_at]; decide, fun i hi => by
        change i < (gI (sI X 4 6 (0 : Int32)) 4 6).toNatClampNeg at hi
        rw [gI_at, show (0 : Int32).toNatClampNeg = 0 by decide] at hi
        exact absurd hi (by omega)⟩, by
        show (gI (sI Y 44 35 _) 44 35).toInt ≤ 0
        rw [gI_at]; decide, by
        show (gI (sI Y 44 35 _) 44 31).toNatClampNeg = _
        rw [gI_off 44 31 (by decide)], fun q => by
        show gI (sI Y 44 35 _) 63 q = _
        rw [gI_ne (by decide)]⟩
theorem bag_out {Y : Mm} {z w : Int32 × Mm} {p q : Int32 × Mm} {k : Nat} (j : Jb Y k z w) (e1 : p = (gI z.2 4 6, z.2)) (e2 : q = (gI w.2 44 35, w.2)) : p.1 = q.1 ∧ Rlots p.2 q.2 ∧ Rbag p.2 q.2 := by
  rw [e1, e2]
  exact ⟨j.2.2.1.1, j.2.1, j.2.2.1⟩
theorem sim_bag {X Y : Mm} (hl : Rlots X Y) (hb : Rbag X Y) (hs : (gI X 3 6).toInt ≤ 500) (u n : Int32) : (f_X6_bag X u n).1 = (f_X7_bag Y u n).1 ∧ Rlots (f_X6_bag X u n).2 (f_X7_bag Y u n).2 ∧ Rbag (f_X6_bag X u n).2 (f_X7_bag Y u n).2 := by
  have h500 : nl Y ≤ 500 := by
    have := hl.1
    unfold nl
    rw [clamp_eq]
    omega
  by_cases c1 : f_X6_within u 0 2 = 0
  · have e1 : f_X6_bag X u n = ((-1 : Int32), X) := by rw [f_X6_bag, if_pos c1]
    have e2 : f_X7_bag Y u n = ((-1 : Int32), Y) := by rw [f_X7_bag, in_wi, if_pos c1]
    rw [e1, e2]
    exact ⟨rfl, hl, hb⟩
  by_cases c2 : f_X6_within n 1 10000 = 0
  · have e1 : f_X6_bag X u n = ((-1 : Int32), X) := by rw [f_X6_bag, if_neg c1, if_pos c2]
    have e2 : f_X7_bag Y u n = ((-1 : Int32), Y) := by rw [f_X7_bag, in_wi, in_wi, if_neg c1, if_pos c2]
    rw [e1, e2]
    exact ⟨rfl, hl, hb⟩
  obtain ⟨n3, e3⟩ := w3 c1
  have a1 := (hl.2.2.2.2.2.2 _ n3).1
  rw [e3] at a1
  have rn := rng_int c2
  rw [show (1 : Int32).toInt = 1 by decide] at rn
  by_cases c3 : n ≤ f_X7_inSilo Y u 0
  · exact bag_out (bag_j hl hs u n) (pr_tr (bagX c1 c2 (by rw [a1]; exact c3)) (fillX X u n)) (bagY c1 c2 c3 (bag_500 hl h500 (by omega) c3))
  · have e1 : f_X6_bag X u n = ((-4 : Int32), X) := by rw [f_X6_bag, if_neg c1, if_neg c2, f_X5_tonsIn, a1, if_neg c3]
    have e2 : f_X7_bag Y u n = ((-4 : Int32), Y) := by rw [f_X7_bag, in_wi, in_wi, if_neg c1, if_neg c2, if_neg c3]
    rw [e1, e2]
    exact ⟨rfl, hl, hb⟩
