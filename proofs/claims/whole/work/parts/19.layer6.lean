section LY9
variable {p : Program} {l : Launch} {e : Env} {R : Room} {s : State} {m : MethodId} {args : Array Value} {below : List Frame} {meth : Method} {c : Code} {cells slots : Nat} {Q : State → Prop} {D : va_G} {A : Nat → Prop} {ct : Nat → ClassId} {a : Nat → Nat} {nL : Nat} {M : Mm} {pc : Nat} {lv : List (Option Value)} {st : List Value}
/-- a loop that ends when Ex holds, and Ex holds after N rounds at the latest -/
theorem q_loopW {σ : Type} (I : Nat → σ → Prop) (N : Nat) (f : Nat → σ → σ) (Mf : σ → Mm) (lf : Int32 → σ → List (Option Value)) (s0 : σ) (h0 : I 0 s0) (hI : ∀ i z, i < N → I i z → I (i + 1) (f i z)) (px : Nat) (Ex : σ → Prop) (habs : ∀ i z, Ex z → f i z = z) (hx : Ex (itr f N s0))
    (last : ∀ z, Ex z → (∀ x, KW p l e R s m args below meth c cells slots Q D A ct a nL (Mf z) px (lf x z) st) → ∀ x, KW p l e R s m args below meth c cells slots Q D A ct a nL (Mf z) pc (lf x z) st)
    (step : ∀ i z, i < N → I i z → ¬ Ex z → KW p l e R s m args below meth c cells slots Q D A ct a nL (Mf (f i z)) pc (lf (nI i + 1) (f i z)) st → KW p l e R s m args below meth c cells slots Q D A ct a nL (Mf z) pc (lf (nI i) z) st)
    (F : ∀ x, KW p l e R s m args below meth c cells slots Q D A ct a nL (Mf (itr f N s0)) px (lf x (itr f N s0)) st) (hd : ∀ z, Ex z ∨ ¬ Ex z) : KW p l e R s m args below meth c cells slots Q D A ct a nL (Mf s0) pc (lf 0 s0) st := by
  have hI' : ∀ i, i ≤ N → I i (itr f i s0) := itr_inv I hI h0
  have habs' : ∀ i, Ex (itr f i s0) → ∀ j, itr f (i + j) s0 = itr f i s0 := by
    intro i hi j
    induction j with
    | zero => rfl
    | succ j ih =>
      rw [show i + (j + 1) = (i + j) + 1 by omega, itr_s, ih, habs _ _ hi]
  have key : ∀ j, j ≤ N → KW p l e R s m args below meth c cells slots Q D A ct a nL (Mf (itr f (N - j) s0)) pc (lf (nI (N - j)) (itr f (N - j) s0)) st := by
    intro j
    induction j with
    | zero => intro _; exact last _ hx F _
    | succ j ih =>
      intro hj
      have h1 := ih (by omega)
      have e : N - j = (N - (j + 1)) + 1 := by omega
      rw [e, nI_succ, itr_s] at h1
      rcases hd (itr f (N - (j + 1)) s0) with hE | hE
      · refine last _ hE ?_ _
        have e2 := habs' _ hE (j + 1)
        rw [show N - (j + 1) + (j + 1) = N by omega] at e2
        rw [← e2]
        exact F
      · exact step (N - (j + 1)) _ (by omega) (hI' _ (by omega)) hE h1
  have h := key N (Nat.le_refl N)
  rw [Nat.sub_self, itr_0] at h
  exact h
end LY9
theorem nge_clamp {x : Int32} {i : Nat} (hx : 0 ≤ x) (h : i < x.toNatClampNeg) : ¬ x ≤ nI i := by
  have hl : x.toNatClampNeg < 2 ^ 31 := by
    have := x.toInt_lt
    have e : x.toNatClampNeg = x.toInt.toNat := rfl
    omega
  have := nI_ge (a := i) (b := x.toNatClampNeg) h hl
  rw [nI_of_clamp hx] at this
  exact this
theorem ge_clamp {x : Int32} (hx : 0 ≤ x) : x ≤ nI x.toNatClampNeg := by
  rw [nI_of_clamp hx]
  exact Int32.le_refl _
theorem nI_hx2 {x : Int32} (hx : 0 ≤ x) : x = nI (x.toNatClampNeg + 1) + (-1) := by
  rw [nI_down, nI_of_clamp hx]
