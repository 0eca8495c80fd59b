/-! the samples that come: the class goes up, the model goes down -/
abbrev Due (A : Mm) (h : Nat) : Prop := ¬ gI A 17 h = (-1 : Int32) ∧ ¬ gI A 2 5 < gI A 17 h
abbrev DueM (M W : Mm) (h : Nat) : Prop := ¬ gI M 44 16 < gI W 52 h ∧ gI W 55 h = 0
def Yg (D : Nat → Prop) (lo hi : Nat) (y : Int32) : Prop := (y = -9 ∧ ∀ h, lo ≤ h → h < hi → ¬ D h) ∨ ∃ k, lo ≤ k ∧ k < hi ∧ D k ∧ (∀ h, k < h → h < hi → ¬ D h) ∧ y = nI k
theorem Yg_uniq {D E : Nat → Prop} {N : Nat} {y w : Int32} (hD : ∀ h, h < N → (D h ↔ E h)) (a : Yg D 0 N y) (b : Yg E 0 N w) : y = w := by
  rcases a with ⟨a1, a2⟩ | ⟨k, -, a2, a3, a4, a5⟩
  · rcases b with ⟨b1, b2⟩ | ⟨m, -, b2, b3, b4, b5⟩
    · rw [a1, b1]
    · exact absurd ((hD m b2).mpr b3) (a2 m (by omega) b2)
  · rcases b with ⟨b1, b2⟩ | ⟨m, -, b2, b3, b4, b5⟩
    · exact absurd ((hD k a2).mp a3) (b2 k (by omega) a2)
    · have e : k = m := by
        rcases Nat.lt_trichotomy k m with q | q | q
        · exact absurd ((hD m b2).mpr b3) (a4 m q b2)
        · exact q
        · exact absurd ((hD k a2).mp a3) (b4 k q a2)
      rw [a5, b5, e]
theorem gI_at (M : Mm) (k j : Nat) (v : Int32) : gI (sI M k j v) k j = v := by rw [gI_sI, if_pos ⟨rfl, rfl⟩]
theorem gJ_at (M : Mm) (k j : Nat) (v : Int64) : gJ (sJ M k j v) k j = v := by rw [gJ_sJ, if_pos ⟨rfl, rfl⟩]
theorem nI_nn9 {i : Nat} (h : i < 2 ^ 31) : ¬ nI i = -9 := fun e => by
  have := nI_int h
  rw [e, show (-9 : Int32).toInt = -9 by decide] at this
  omega
theorem nI_ge0 {i : Nat} (h : i < 2 ^ 31) : 0 ≤ nI i := by
  rw [Int32.le_iff_toInt_le, nI_int h, show (0 : Int32).toInt = 0 by decide]
  omega
theorem nI_inj {i k : Nat} (hi : i < 2 ^ 31) (hk : k < 2 ^ 31) (e : nI i = nI k) : i = k := by
  have := nI_int hi
  rw [e, nI_int hk] at this
  omega
def Iry (A : Mm) (n : Nat) (z : Int32 × Mm) : Prop := Yg (Due A) 0 n z.1 ∧ (∀ h, gI z.2 17 h = if h < n ∧ Due A h then (-1 : Int32) else gI A 17 h) ∧ gI z.2 2 5 = gI A 2 5 ∧ gI z.2 2 7 + (if z.1 = -9 then (0 : Int32) else 1) = gI A 2 7 + sm (fun h => if Due A h then (1 : Int32) else 0) n
theorem ry_step {A : Mm} {i : Nat} (hi : i < 300) {z : Int32 × Mm} (h : Iry A i z) : Iry A (i + 1) (b_X0_readYoungest_1 i z) := by
  obtain ⟨a1, a2, a3, a4⟩ := h
  have e17 : gI z.2 17 i = gI A 17 i := by rw [a2, if_neg (fun q => absurd q.1 (by omega))]
  by_cases d : Due A i
  · have b1 : b_X0_readYoungest_1 i z = (nI i, sI (if z.1 = (-9 : Int32) then z.2 else (sI z.2 2 7 ((gI z.2 2 7) + (1 : Int32)))) 17 i (-1 : Int32)) := by
      rw [b_X0_readYoungest_1, m_X0_readYoungest_1, e17, a3, if_neg d.1, if_neg d.2, if_neg d.1, if_neg d.2]
    rw [b1]
    refine ⟨Or.inr ⟨i, by omega, by omega, d, fun h q1 q2 => absurd q1 (by omega), rfl⟩, fun h => ?_, ?_, ?_⟩
    · show gI (sI (if z.1 = (-9 : Int32) then z.2 else (sI z.2 2 7 ((gI z.2 2 7) + (1 : Int32)))) 17 i (-1 : Int32)) 17 h = _
      by_cases e : h = i
      · rw [gI_sI, if_pos ⟨rfl, e⟩, if_pos ⟨by omega, by rw [e]; exact d⟩]
      · rw [gI_off 17 h (fun q => e q.2), gI_iteK (x := gI z.2 17 h) rfl (gI_ne (by decide)), a2]
        by_cases l : h < i ∧ Due A h
        · rw [if_pos l, if_pos ⟨by omega, l.2⟩]
        · rw [if_neg l, if_neg (fun q => l ⟨by omega, q.2⟩)]
    · show gI (sI (if z.1 = (-9 : Int32) then z.2 else (sI z.2 2 7 ((gI z.2 2 7) + (1 : Int32)))) 17 i (-1 : Int32)) 2 5 = _
      rw [gI_ne (by decide), gI_iteK (x := gI z.2 2 5) rfl (gI_off 2 5 (by decide)), a3]
    · show gI (sI (if z.1 = (-9 : Int32) then z.2 else (sI z.2 2 7 ((gI z.2 2 7) + (1 : Int32)))) 17 i (-1 : Int32)) 2 7 + (if nI i = -9 then (0 : Int32) else 1) = _
      rw [gI_ne (by decide), gI_ite, gI_at, if_neg (nI_nn9 (by omega)), sm_s, if_pos d]
      by_cases q : z.1 = -9
      · rw [if_pos q] at a4 ⊢
        rw [← Int32.add_assoc, ← a4, Int32.add_zero]
      · rw [if_neg q] at a4 ⊢
        rw [← Int32.add_assoc, ← a4]
  · have b1 : b_X0_readYoungest_1 i z = z := by
      by_cases q : gI A 17 i = -1
      · rw [b_X0_readYoungest_1, m_X0_readYoungest_1, e17, if_pos q, if_pos q]
      · have q2 : gI A 2 5 < gI A 17 i := Classical.byContradiction (fun r => d ⟨q, r⟩)
        rw [b_X0_readYoungest_1, m_X0_readYoungest_1, e17, a3, if_neg q, if_pos q2, if_neg q, if_pos q2]
    rw [b1]
    refine ⟨?_, fun h => ?_, a3, ?_⟩
    · rcases a1 with ⟨p1, p2⟩ | ⟨k, p1, p2, p3, p4, p5⟩
      · refine Or.inl ⟨p1, fun h q1 q2 => ?_⟩
        by_cases e : h = i
        · rw [e]; exact d
        · exact p2 h q1 (by omega)
      · refine Or.inr ⟨k, p1, by omega, p3, fun h q1 q2 => ?_, p5⟩
        by_cases e : h = i
        · rw [e]; exact d
        · exact p4 h q1 (by omega)
    · rw [a2]
      by_cases l : h < i ∧ Due A h
      · rw [if_pos l, if_pos ⟨by omega, l.2⟩]
      · rw [if_neg l, if_neg (fun q => l ⟨by
          have : ¬ h = i := fun e => d (by rw [← e]; exact q.2)
          omega, q.2⟩)]
    · rw [sm_s, if_neg d, Int32.add_zero]
      exact a4
theorem ry_all (A : Mm) (n : Nat) (hn : n ≤ 300) : Iry A n (itr b_X0_readYoungest_1 n ((-9 : Int32), A)) :=
  itr_inv (Iry A) (N := 300) (fun i z hi hz => ry_step hi hz) ⟨Or.inl ⟨rfl, fun h _ q => absurd q (by omega)⟩, fun h => by rw [if_neg (fun q => absurd q.1 (by omega))], rfl, by rw [sm_0]; rfl⟩ n hn
def Ihr (M W : Mm) (N i : Nat) (w : Mm) : Prop := i ≤ N ∧ Yg (DueM M W) i N (gI w 44 21) ∧ (∀ h, gI w 55 h = if i ≤ h ∧ h < N ∧ DueM M W h then (if nI h = gI w 44 21 then (1 : Int32) else 2) else gI W 55 h) ∧ (∀ h, gI w 52 h = gI W 52 h)
theorem hr_step {M W : Mm} {N i : Nat} (hN : N ≤ 300) {w : Mm} (h : Ihr M W N (i + 1) w) : Ihr M W N i (b_X7_hour_1 M i w) := by
  obtain ⟨a0, a1, a2, a3⟩ := h
  have e55 : gI w 55 i = gI W 55 i := by rw [a2, if_neg (fun q => absurd q.1 (by omega))]
  have e52 := a3 i
  rw [b_X7_hour_1, m_X7_hour_3, e52, e55]
  by_cases d : DueM M W i
  · rw [if_neg d.1, if_pos d.2, gI_ne (by decide)]
    rcases a1 with ⟨p1, p2⟩ | ⟨k, p1, p2, p3, p4, p5⟩
    · have n0 : ¬ (0 : Int32) ≤ -9 := by decide
      rw [p1, if_neg n0, if_neg n0]
      have g21 : gI (sI (sI w 55 i (1 : Int32)) 44 21 (nI i)) 44 21 = nI i := by rw [gI_sI, if_pos ⟨rfl, rfl⟩]
      refine ⟨by omega, ?_, fun h => ?_, fun h => ?_⟩
      · rw [g21]
        exact Or.inr ⟨i, by omega, by omega, d, fun h q1 q2 => p2 h (by omega) q2, rfl⟩
      · rw [g21, gI_ne (by decide), gI_sI]
        by_cases e : h = i
        · rw [if_pos ⟨rfl, e⟩, if_pos ⟨by omega, by omega, by rw [e]; exact d⟩, if_pos (by rw [e])]
        · rw [if_neg (fun q => e q.2), a2, if_neg (fun q => p2 h q.1 q.2.1 q.2.2)]
          rw [if_neg (fun q => p2 h (by omega) q.2.1 q.2.2)]
      · rw [gI_ne (by decide), gI_ne (by decide), a3]
    · have n0 : (0 : Int32) ≤ nI k := nI_ge0 (by omega)
      rw [p5, if_pos n0, if_pos n0]
      have g21 : gI (sI (sI w 55 i (2 : Int32)) 44 21 (nI k)) 44 21 = nI k := by rw [gI_sI, if_pos ⟨rfl, rfl⟩]
      refine ⟨by omega, ?_, fun h => ?_, fun h => ?_⟩
      · rw [g21]
        exact Or.inr ⟨k, by omega, p2, p3, p4, rfl⟩
      · rw [g21, gI_ne (by decide), gI_sI]
        by_cases e : h = i
        · rw [if_pos ⟨rfl, e⟩, if_pos ⟨by omega, by omega, by rw [e]; exact d⟩, if_neg (fun q => by
            have := nI_inj (by omega) (by omega) q
            omega)]
        · rw [if_neg (fun q => e q.2), a2, p5]
          by_cases l : i + 1 ≤ h ∧ h < N ∧ DueM M W h
          · rw [if_pos l, if_pos (show i ≤ h ∧ h < N ∧ DueM M W h from ⟨by omega, l.2⟩)]
          · rw [if_neg l, if_neg (fun q => l ⟨by omega, q.2⟩)]
      · rw [gI_ne (by decide), gI_ne (by decide), a3]
  · have b1 : (if gI M 44 16 < gI W 52 i then w else (if gI W 55 i = 0 then (sI (sI w 55 i (if 0 ≤ (gI w 44 21) then (2 : Int32) else (1 : Int32))) 44 21 (if 0 ≤ (gI (sI w 55 i (if 0 ≤ (gI w 44 21) then (2 : Int32) else (1 : Int32))) 44 21) then (gI (sI w 55 i (if 0 ≤ (gI w 44 21) then (2 : Int32) else (1 : Int32))) 44 21) else (nI i))) else w)) = w := by
      by_cases q : gI M 44 16 < gI W 52 i
      · rw [if_pos q]
      · rw [if_neg q, if_neg (fun r => d ⟨q, r⟩)]
    rw [b1]
    refine ⟨by omega, ?_, fun h => ?_, a3⟩
    · rcases a1 with ⟨p1, p2⟩ | ⟨k, p1, p2, p3, p4, p5⟩
      · refine Or.inl ⟨p1, fun h q1 q2 => ?_⟩
        by_cases e : h = i
        · rw [e]; exact d
        · exact p2 h (by omega) q2
      · exact Or.inr ⟨k, by omega, p2, p3, p4, p5⟩
    · rw [a2]
      by_cases l : i + 1 ≤ h ∧ h < N ∧ DueM M W h
      · rw [if_pos l, if_pos (show i ≤ h ∧ h < N ∧ DueM M W h from ⟨by omega, l.2⟩)]
      · rw [if_neg l, if_neg (fun q => l ⟨by
          have : ¬ h = i := fun e => d (by rw [← e]; exact q.2.2)
          omega, q.2⟩)]
theorem hr_all (M W : Mm) (N : Nat) (hN : N ≤ 300) (h9 : gI W 44 21 = -9) : Ihr M W N 0 (itd (b_X7_hour_1 M) N W) :=
  itd_inv (Ihr M W N) (fun i z hz => hr_step hN hz) N W ⟨Nat.le_refl _, Or.inl ⟨h9, fun h q1 q2 => absurd q1 (by omega)⟩, fun h => by rw [if_neg (fun q => absurd q.2.1 (by omega))], fun _ => rfl⟩
/-- both loops, held together -/
theorem hr_join {M W A : Mm} {N : Nat} (hN : N ≤ 300) (h9 : gI W 44 21 = -9) (hD : ∀ h, h < N → (Due A h ↔ DueM M W h)) (h7 : gI A 2 7 = sm (fun h => if gI W 55 h = 2 then (1 : Int32) else 0) N) :
    (itr b_X0_readYoungest_1 N ((-9 : Int32), A)).1 = gI (itd (b_X7_hour_1 M) N W) 44 21 ∧ gI (itr b_X0_readYoungest_1 N ((-9 : Int32), A)).2 2 7 = sm (fun h => if gI (itd (b_X7_hour_1 M) N W) 55 h = 2 then (1 : Int32) else 0) N := by
  obtain ⟨a1, a2, a3, a4⟩ := ry_all A N hN
  obtain ⟨-, b1, b2, b3⟩ := hr_all M W N hN h9
  have e := Yg_uniq hD a1 b1
  refine ⟨e, ?_⟩
  generalize itr b_X0_readYoungest_1 N ((-9 : Int32), A) = z at a1 a2 a3 a4 e ⊢
  generalize itd (b_X7_hour_1 M) N W = w at b1 b2 b3 e ⊢
  rw [e] at a4
  have ey : sm (fun h => if nI h = gI w 44 21 then (1 : Int32) else 0) N = if gI w 44 21 = -9 then (0 : Int32) else 1 := by
    rcases b1 with ⟨p1, p2⟩ | ⟨k, p1, p2, p3, p4, p5⟩
    · rw [p1, if_pos rfl]
      rw [sm_congr (g := fun _ => 0) N (fun i hi => if_neg (nI_nn9 (by omega)))]
      exact sm_zero N
    · rw [p5, if_neg (nI_nn9 (by omega))]
      rw [sm_congr (g := fun i => if i = k then (1 : Int32) else 0) N (fun i hi => by
        by_cases q : i = k
        · rw [if_pos q, if_pos (by rw [q])]
        · rw [if_neg q, if_neg (fun r => q (nI_inj (by omega) (by omega) r))])]
      rw [sm_one, if_pos p2]
  have es : sm (fun h => (if gI w 55 h = 2 then (1 : Int32) else 0) + (if nI h = gI w 44 21 then (1 : Int32) else 0)) N = sm (fun h => (if gI W 55 h = 2 then (1 : Int32) else 0) + (if Due A h then (1 : Int32) else 0)) N := by
    refine sm_congr N (fun h hh => ?_)
    have v := b2 h
    by_cases d : DueM M W h
    · rw [if_pos (show 0 ≤ h ∧ h < N ∧ DueM M W h from ⟨by omega, hh, d⟩)] at v
      rw [if_pos ((hD h hh).mpr d), d.2]
      by_cases q : nI h = gI w 44 21
      · rw [if_pos q] at v
        rw [v, if_pos q]; decide
      · rw [if_neg q] at v
        rw [v, if_neg q]; decide
    · rw [if_neg (fun q => d q.2.2)] at v
      have q : ¬ nI h = gI w 44 21 := fun q => by
        rcases b1 with ⟨p1, p2⟩ | ⟨k, p1, p2, p3, p4, p5⟩
        · rw [p1] at q
          exact nI_nn9 (by omega) q
        · rw [p5] at q
          exact d (by rw [nI_inj (by omega) (by omega) q]; exact p3)
      rw [v, if_neg q, if_neg (fun q => d ((hD h hh).mp q))]
  rw [sm_add, sm_add, ey, ← h7, ← a4] at es
  exact (Int32.add_left_inj _ |>.mp es).symm
