/-! the start: the world as the memory has it -/
theorem ws_0 {D : va_G} {ct : Nat → ClassId} {H : Heap} {q6 q7 : Nat} {r6 r7 : Nat → Nat} (h : va_at D vwCl (q6, .inr (6, [.ref (r6 0), .ref (r6 5), .ref (r6 15), .ref (r6 22), .ref (r6 29), .ref (r6 41), .long 0, .long 1, .long 0])) H) : va_at D vwCl (aL q6 r6 q7 r7 0, ce ct (aL q6 r6 q7 r7) M0 0 (.inl (6, [4, 5, 6, 7, 8, 9, 1, 1, 1]))) H := by
  have o : ([4, 5, 6, 7, 8, 9, 1, 1, 1] : List Nat).mapIdx (fun j f => fv (aL q6 r6 q7 r7) M0 0 j f) = [.ref (r6 0), .ref (r6 5), .ref (r6 15), .ref (r6 22), .ref (r6 29), .ref (r6 41), .long 0, .long 1, .long 0] := by
    simp only [List.mapIdx_cons, List.mapIdx_nil]
    rfl
  show va_at D vwCl (aL q6 r6 q7 r7 0, .inr (6, ([4, 5, 6, 7, 8, 9, 1, 1, 1] : List Nat).mapIdx (fun j f => fv (aL q6 r6 q7 r7) M0 0 j f))) H
  rw [o]
  exact h
theorem ws_1 {D : va_G} {ct : Nat → ClassId} {H : Heap} {q6 q7 : Nat} {r6 r7 : Nat → Nat} (h : va_at D vwCl (r6 0, .inr (2, [.ref (r6 1), .ref (r6 2), .ref (r6 3), .ref (r6 4), .int (0)])) H) : va_at D vwCl (aL q6 r6 q7 r7 1, ce ct (aL q6 r6 q7 r7) M0 1 (.inl (2, [10, 11, 12, 13, 0]))) H := by
  have o : ([10, 11, 12, 13, 0] : List Nat).mapIdx (fun j f => fv (aL q6 r6 q7 r7) M0 1 j f) = [.ref (r6 1), .ref (r6 2), .ref (r6 3), .ref (r6 4), .int (0)] := by
    simp only [List.mapIdx_cons, List.mapIdx_nil]
    rfl
  show va_at D vwCl (aL q6 r6 q7 r7 1, .inr (2, ([10, 11, 12, 13, 0] : List Nat).mapIdx (fun j f => fv (aL q6 r6 q7 r7) M0 1 j f))) H
  rw [o]
  exact h
theorem ws_2 {D : va_G} {ct : Nat → ClassId} {H : Heap} {q6 q7 : Nat} {r6 r7 : Nat → Nat} (h : va_at D vwCl (r6 5, .inr (0, [.ref (r6 6), .ref (r6 10), .ref (r6 7), .ref (r6 8), .ref (r6 9), .int (0), .int (-9), .int (0), .int (3), .int (1), .int (1), .int (10)])) H) : va_at D vwCl (aL q6 r6 q7 r7 2, ce ct (aL q6 r6 q7 r7) M0 2 (.inl (0, [14, 19, 20, 21, 22, 0, 0, 0, 0, 0, 0, 0]))) H := by
  have o : ([14, 19, 20, 21, 22, 0, 0, 0, 0, 0, 0, 0] : List Nat).mapIdx (fun j f => fv (aL q6 r6 q7 r7) M0 2 j f) = [.ref (r6 6), .ref (r6 10), .ref (r6 7), .ref (r6 8), .ref (r6 9), .int (0), .int (-9), .int (0), .int (3), .int (1), .int (1), .int (10)] := by
    simp only [List.mapIdx_cons, List.mapIdx_nil]
    rfl
  show va_at D vwCl (aL q6 r6 q7 r7 2, .inr (0, ([14, 19, 20, 21, 22, 0, 0, 0, 0, 0, 0, 0] : List Nat).mapIdx (fun j f => fv (aL q6 r6 q7 r7) M0 2 j f))) H
  rw [o]
  exact h
theorem ws_3 {D : va_G} {ct : Nat → ClassId} {H : Heap} {q6 q7 : Nat} {r6 r7 : Nat → Nat} (h : va_at D vwCl (r6 15, .inr (3, [.ref (r6 16), .ref (r6 17), .ref (r6 18), .ref (r6 19), .ref (r6 20), .ref (r6 21), .int (0), .int (-9), .int (0)])) H) : va_at D vwCl (aL q6 r6 q7 r7 3, ce ct (aL q6 r6 q7 r7) M0 3 (.inl (3, [23, 24, 25, 26, 27, 28, 0, 0, 0]))) H := by
  have o : ([23, 24, 25, 26, 27, 28, 0, 0, 0] : List Nat).mapIdx (fun j f => fv (aL q6 r6 q7 r7) M0 3 j f) = [.ref (r6 16), .ref (r6 17), .ref (r6 18), .ref (r6 19), .ref (r6 20), .ref (r6 21), .int (0), .int (-9), .int (0)] := by
    simp only [List.mapIdx_cons, List.mapIdx_nil]
    rfl
  show va_at D vwCl (aL q6 r6 q7 r7 3, .inr (3, ([23, 24, 25, 26, 27, 28, 0, 0, 0] : List Nat).mapIdx (fun j f => fv (aL q6 r6 q7 r7) M0 3 j f))) H
  rw [o]
  exact h
theorem ws_4 {D : va_G} {ct : Nat → ClassId} {H : Heap} {q6 q7 : Nat} {r6 r7 : Nat → Nat} (h : va_at D vwCl (r6 22, .inr (5, [.ref (r6 23), .ref (r6 24), .ref (r6 25), .ref (r6 26), .ref (r6 27), .ref (r6 28), .int (0)])) H) : va_at D vwCl (aL q6 r6 q7 r7 4, ce ct (aL q6 r6 q7 r7) M0 4 (.inl (5, [29, 30, 31, 32, 33, 34, 0]))) H := by
  have o : ([29, 30, 31, 32, 33, 34, 0] : List Nat).mapIdx (fun j f => fv (aL q6 r6 q7 r7) M0 4 j f) = [.ref (r6 23), .ref (r6 24), .ref (r6 25), .ref (r6 26), .ref (r6 27), .ref (r6 28), .int (0)] := by
    simp only [List.mapIdx_cons, List.mapIdx_nil]
    rfl
  show va_at D vwCl (aL q6 r6 q7 r7 4, .inr (5, ([29, 30, 31, 32, 33, 34, 0] : List Nat).mapIdx (fun j f => fv (aL q6 r6 q7 r7) M0 4 j f))) H
  rw [o]
  exact h
theorem ws_5 {D : va_G} {ct : Nat → ClassId} {H : Heap} {q6 q7 : Nat} {r6 r7 : Nat → Nat} (h : va_at D vwCl (r6 29, .inr (4, [.ref (r6 30), .ref (r6 31), .ref (r6 39), .ref (r6 40), .int (0)])) H) : va_at D vwCl (aL q6 r6 q7 r7 5, ce ct (aL q6 r6 q7 r7) M0 5 (.inl (4, [35, 36, 44, 45, 0]))) H := by
  have o : ([35, 36, 44, 45, 0] : List Nat).mapIdx (fun j f => fv (aL q6 r6 q7 r7) M0 5 j f) = [.ref (r6 30), .ref (r6 31), .ref (r6 39), .ref (r6 40), .int (0)] := by
    simp only [List.mapIdx_cons, List.mapIdx_nil]
    rfl
  show va_at D vwCl (aL q6 r6 q7 r7 5, .inr (4, ([35, 36, 44, 45, 0] : List Nat).mapIdx (fun j f => fv (aL q6 r6 q7 r7) M0 5 j f))) H
  rw [o]
  exact h
theorem ws_6 {D : va_G} {ct : Nat → ClassId} {H : Heap} {q6 q7 : Nat} {r6 r7 : Nat → Nat} (h : va_at D vwCl (r6 41, .inr (1, [.ref (r6 42), .int (0)])) H) : va_at D vwCl (aL q6 r6 q7 r7 6, ce ct (aL q6 r6 q7 r7) M0 6 (.inl (1, [46, 0]))) H := by
  have o : ([46, 0] : List Nat).mapIdx (fun j f => fv (aL q6 r6 q7 r7) M0 6 j f) = [.ref (r6 42), .int (0)] := by
    simp only [List.mapIdx_cons, List.mapIdx_nil]
    rfl
  show va_at D vwCl (aL q6 r6 q7 r7 6, .inr (1, ([46, 0] : List Nat).mapIdx (fun j f => fv (aL q6 r6 q7 r7) M0 6 j f))) H
  rw [o]
  exact h
theorem ws_7 {D : va_G} {ct : Nat → ClassId} {H : Heap} {q6 q7 : Nat} {r6 r7 : Nat → Nat} (h : va_at D vwCl (r6 1, .inl (ct 0, 10, .inl (fun _ => 0))) H) : va_at D vwCl (aL q6 r6 q7 r7 7, ce ct (aL q6 r6 q7 r7) M0 7 (.inr (0, 10, 0))) H := by
  exact h
theorem ws_8 {D : va_G} {ct : Nat → ClassId} {H : Heap} {q6 q7 : Nat} {r6 r7 : Nat → Nat} (h : va_at D vwCl (r6 2, .inl (ct 0, 10, .inl (fun _ => 0))) H) : va_at D vwCl (aL q6 r6 q7 r7 8, ce ct (aL q6 r6 q7 r7) M0 8 (.inr (0, 10, 0))) H := by
  exact h
theorem ws_9 {D : va_G} {ct : Nat → ClassId} {H : Heap} {q6 q7 : Nat} {r6 r7 : Nat → Nat} (h : va_at D vwCl (r6 3, .inl (ct 2, 10, .inl (fun _ => 0))) H) : va_at D vwCl (aL q6 r6 q7 r7 9, ce ct (aL q6 r6 q7 r7) M0 9 (.inr (2, 10, 0))) H := by
  exact h
theorem ws_10 {D : va_G} {ct : Nat → ClassId} {H : Heap} {q6 q7 : Nat} {r6 r7 : Nat → Nat} (h : va_at D vwCl (r6 4, .inl (ct 0, 30, .inl (fun _ => 0))) H) : va_at D vwCl (aL q6 r6 q7 r7 10, ce ct (aL q6 r6 q7 r7) M0 10 (.inr (0, 30, 0))) H := by
  exact h
theorem ws_11 {D : va_G} {ct : Nat → ClassId} {H : Heap} {q6 q7 : Nat} {r6 r7 : Nat → Nat} (h : va_at D vwCl (r6 6, .inl (ct 3, 4, .inr (.inr (.inr (.inr (fun i => if i < 4 then some (r6 (11 + i)) else none)))))) H) : va_at D vwCl (aL q6 r6 q7 r7 11, ce ct (aL q6 r6 q7 r7) M0 11 (.inr (3, 4, 12))) H := by
  rw [aL_rows11 q6 r6 q7 r7] at h
  exact h
theorem ws_12 {D : va_G} {ct : Nat → ClassId} {H : Heap} {q6 q7 : Nat} {r6 r7 : Nat → Nat} (h : va_at D vwCl (r6 11, .inl (ct 0, 4, .inl (flF 4 250 (fun _ => 0)))) H) : va_at D vwCl (aL q6 r6 q7 r7 12, ce ct (aL q6 r6 q7 r7) M0 12 (.inr (0, 4, 0))) H := by
  exact h
theorem ws_13 {D : va_G} {ct : Nat → ClassId} {H : Heap} {q6 q7 : Nat} {r6 r7 : Nat → Nat} (h : va_at D vwCl (r6 12, .inl (ct 0, 4, .inl (flF 4 250 (fun _ => 0)))) H) : va_at D vwCl (aL q6 r6 q7 r7 13, ce ct (aL q6 r6 q7 r7) M0 13 (.inr (0, 4, 0))) H := by
  exact h
theorem ws_14 {D : va_G} {ct : Nat → ClassId} {H : Heap} {q6 q7 : Nat} {r6 r7 : Nat → Nat} (h : va_at D vwCl (r6 13, .inl (ct 0, 4, .inl (flF 4 250 (fun _ => 0)))) H) : va_at D vwCl (aL q6 r6 q7 r7 14, ce ct (aL q6 r6 q7 r7) M0 14 (.inr (0, 4, 0))) H := by
  exact h
theorem ws_15 {D : va_G} {ct : Nat → ClassId} {H : Heap} {q6 q7 : Nat} {r6 r7 : Nat → Nat} (h : va_at D vwCl (r6 14, .inl (ct 0, 4, .inl (flF 4 250 (fun _ => 0)))) H) : va_at D vwCl (aL q6 r6 q7 r7 15, ce ct (aL q6 r6 q7 r7) M0 15 (.inr (0, 4, 0))) H := by
  exact h
theorem ws_16 {D : va_G} {ct : Nat → ClassId} {H : Heap} {q6 q7 : Nat} {r6 r7 : Nat → Nat} (h : va_at D vwCl (r6 10, .inl (ct 0, 4, .inl (flF 4 250 (fun _ => 0)))) H) : va_at D vwCl (aL q6 r6 q7 r7 16, ce ct (aL q6 r6 q7 r7) M0 16 (.inr (0, 4, 0))) H := by
  exact h
theorem ws_17 {D : va_G} {ct : Nat → ClassId} {H : Heap} {q6 q7 : Nat} {r6 r7 : Nat → Nat} (h : va_at D vwCl (r6 7, .inl (ct 0, 200, .inl (fun _ => 0))) H) : va_at D vwCl (aL q6 r6 q7 r7 17, ce ct (aL q6 r6 q7 r7) M0 17 (.inr (0, 200, 0))) H := by
  exact h
theorem ws_18 {D : va_G} {ct : Nat → ClassId} {H : Heap} {q6 q7 : Nat} {r6 r7 : Nat → Nat} (h : va_at D vwCl (r6 8, .inl (ct 0, 200, .inl (fun _ => 0))) H) : va_at D vwCl (aL q6 r6 q7 r7 18, ce ct (aL q6 r6 q7 r7) M0 18 (.inr (0, 200, 0))) H := by
  exact h
theorem ws_19 {D : va_G} {ct : Nat → ClassId} {H : Heap} {q6 q7 : Nat} {r6 r7 : Nat → Nat} (h : va_at D vwCl (r6 9, .inl (ct 0, 200, .inl (fun _ => 0))) H) : va_at D vwCl (aL q6 r6 q7 r7 19, ce ct (aL q6 r6 q7 r7) M0 19 (.inr (0, 200, 0))) H := by
  exact h
theorem ws_20 {D : va_G} {ct : Nat → ClassId} {H : Heap} {q6 q7 : Nat} {r6 r7 : Nat → Nat} (h : va_at D vwCl (r6 16, .inl (ct 0, 4, .inl (fun _ => 0))) H) : va_at D vwCl (aL q6 r6 q7 r7 20, ce ct (aL q6 r6 q7 r7) M0 20 (.inr (0, 4, 0))) H := by
  exact h
theorem ws_21 {D : va_G} {ct : Nat → ClassId} {H : Heap} {q6 q7 : Nat} {r6 r7 : Nat → Nat} (h : va_at D vwCl (r6 17, .inl (ct 0, 4, .inl (fun _ => 0))) H) : va_at D vwCl (aL q6 r6 q7 r7 21, ce ct (aL q6 r6 q7 r7) M0 21 (.inr (0, 4, 0))) H := by
  exact h
theorem ws_22 {D : va_G} {ct : Nat → ClassId} {H : Heap} {q6 q7 : Nat} {r6 r7 : Nat → Nat} (h : va_at D vwCl (r6 18, .inl (ct 0, 4, .inl (fun _ => 0))) H) : va_at D vwCl (aL q6 r6 q7 r7 22, ce ct (aL q6 r6 q7 r7) M0 22 (.inr (0, 4, 0))) H := by
  exact h
theorem ws_23 {D : va_G} {ct : Nat → ClassId} {H : Heap} {q6 q7 : Nat} {r6 r7 : Nat → Nat} (h : va_at D vwCl (r6 19, .inl (ct 0, 4, .inl (fun _ => 0))) H) : va_at D vwCl (aL q6 r6 q7 r7 23, ce ct (aL q6 r6 q7 r7) M0 23 (.inr (0, 4, 0))) H := by
  exact h
theorem ws_24 {D : va_G} {ct : Nat → ClassId} {H : Heap} {q6 q7 : Nat} {r6 r7 : Nat → Nat} (h : va_at D vwCl (r6 20, .inl (ct 0, 7, .inl (fun _ => 0))) H) : va_at D vwCl (aL q6 r6 q7 r7 24, ce ct (aL q6 r6 q7 r7) M0 24 (.inr (0, 7, 0))) H := by
  exact h
theorem ws_25 {D : va_G} {ct : Nat → ClassId} {H : Heap} {q6 q7 : Nat} {r6 r7 : Nat → Nat} (h : va_at D vwCl (r6 21, .inl (ct 1, 5, .inr (.inl (fun _ => 0)))) H) : va_at D vwCl (aL q6 r6 q7 r7 25, ce ct (aL q6 r6 q7 r7) M0 25 (.inr (1, 5, 0))) H := by
  exact h
theorem ws_26 {D : va_G} {ct : Nat → ClassId} {H : Heap} {q6 q7 : Nat} {r6 r7 : Nat → Nat} (h : va_at D vwCl (r6 23, .inl (ct 0, 500, .inl (fun _ => 0))) H) : va_at D vwCl (aL q6 r6 q7 r7 26, ce ct (aL q6 r6 q7 r7) M0 26 (.inr (0, 500, 0))) H := by
  exact h
theorem ws_27 {D : va_G} {ct : Nat → ClassId} {H : Heap} {q6 q7 : Nat} {r6 r7 : Nat → Nat} (h : va_at D vwCl (r6 24, .inl (ct 0, 500, .inl (fun _ => 0))) H) : va_at D vwCl (aL q6 r6 q7 r7 27, ce ct (aL q6 r6 q7 r7) M0 27 (.inr (0, 500, 0))) H := by
  exact h
theorem ws_28 {D : va_G} {ct : Nat → ClassId} {H : Heap} {q6 q7 : Nat} {r6 r7 : Nat → Nat} (h : va_at D vwCl (r6 25, .inl (ct 0, 3, .inl (fun _ => 0))) H) : va_at D vwCl (aL q6 r6 q7 r7 28, ce ct (aL q6 r6 q7 r7) M0 28 (.inr (0, 3, 0))) H := by
  exact h
theorem ws_29 {D : va_G} {ct : Nat → ClassId} {H : Heap} {q6 q7 : Nat} {r6 r7 : Nat → Nat} (h : va_at D vwCl (r6 26, .inl (ct 0, 3, .inl (fun _ => 0))) H) : va_at D vwCl (aL q6 r6 q7 r7 29, ce ct (aL q6 r6 q7 r7) M0 29 (.inr (0, 3, 0))) H := by
  exact h
theorem ws_30 {D : va_G} {ct : Nat → ClassId} {H : Heap} {q6 q7 : Nat} {r6 r7 : Nat → Nat} (h : va_at D vwCl (r6 27, .inl (ct 0, 500, .inl (fun _ => 0))) H) : va_at D vwCl (aL q6 r6 q7 r7 30, ce ct (aL q6 r6 q7 r7) M0 30 (.inr (0, 500, 0))) H := by
  exact h
theorem ws_31 {D : va_G} {ct : Nat → ClassId} {H : Heap} {q6 q7 : Nat} {r6 r7 : Nat → Nat} (h : va_at D vwCl (r6 28, .inl (ct 0, 500, .inl (fun _ => 0))) H) : va_at D vwCl (aL q6 r6 q7 r7 31, ce ct (aL q6 r6 q7 r7) M0 31 (.inr (0, 500, 0))) H := by
  exact h
theorem ws_32 {D : va_G} {ct : Nat → ClassId} {H : Heap} {q6 q7 : Nat} {r6 r7 : Nat → Nat} (h : va_at D vwCl (r6 30, .inl (ct 2, 7, .inl (fun _ => 0))) H) : va_at D vwCl (aL q6 r6 q7 r7 32, ce ct (aL q6 r6 q7 r7) M0 32 (.inr (2, 7, 0))) H := by
  exact h
theorem ws_33 {D : va_G} {ct : Nat → ClassId} {H : Heap} {q6 q7 : Nat} {r6 r7 : Nat → Nat} (h : va_at D vwCl (r6 31, .inl (ct 3, 7, .inr (.inr (.inr (.inr (fun i => if i < 7 then some (r6 (32 + i)) else none)))))) H) : va_at D vwCl (aL q6 r6 q7 r7 33, ce ct (aL q6 r6 q7 r7) M0 33 (.inr (3, 7, 34))) H := by
  rw [aL_rows33 q6 r6 q7 r7] at h
  exact h
theorem ws_34 {D : va_G} {ct : Nat → ClassId} {H : Heap} {q6 q7 : Nat} {r6 r7 : Nat → Nat} (h : va_at D vwCl (r6 32, .inl (ct 0, 24, .inl (fun _ => 0))) H) : va_at D vwCl (aL q6 r6 q7 r7 34, ce ct (aL q6 r6 q7 r7) M0 34 (.inr (0, 24, 0))) H := by
  exact h
theorem ws_35 {D : va_G} {ct : Nat → ClassId} {H : Heap} {q6 q7 : Nat} {r6 r7 : Nat → Nat} (h : va_at D vwCl (r6 33, .inl (ct 0, 24, .inl (fun _ => 0))) H) : va_at D vwCl (aL q6 r6 q7 r7 35, ce ct (aL q6 r6 q7 r7) M0 35 (.inr (0, 24, 0))) H := by
  exact h
theorem ws_36 {D : va_G} {ct : Nat → ClassId} {H : Heap} {q6 q7 : Nat} {r6 r7 : Nat → Nat} (h : va_at D vwCl (r6 34, .inl (ct 0, 24, .inl (fun _ => 0))) H) : va_at D vwCl (aL q6 r6 q7 r7 36, ce ct (aL q6 r6 q7 r7) M0 36 (.inr (0, 24, 0))) H := by
  exact h
theorem ws_37 {D : va_G} {ct : Nat → ClassId} {H : Heap} {q6 q7 : Nat} {r6 r7 : Nat → Nat} (h : va_at D vwCl (r6 35, .inl (ct 0, 24, .inl (fun _ => 0))) H) : va_at D vwCl (aL q6 r6 q7 r7 37, ce ct (aL q6 r6 q7 r7) M0 37 (.inr (0, 24, 0))) H := by
  exact h
theorem ws_38 {D : va_G} {ct : Nat → ClassId} {H : Heap} {q6 q7 : Nat} {r6 r7 : Nat → Nat} (h : va_at D vwCl (r6 36, .inl (ct 0, 24, .inl (fun _ => 0))) H) : va_at D vwCl (aL q6 r6 q7 r7 38, ce ct (aL q6 r6 q7 r7) M0 38 (.inr (0, 24, 0))) H := by
  exact h
theorem ws_39 {D : va_G} {ct : Nat → ClassId} {H : Heap} {q6 q7 : Nat} {r6 r7 : Nat → Nat} (h : va_at D vwCl (r6 37, .inl (ct 0, 24, .inl (fun _ => 0))) H) : va_at D vwCl (aL q6 r6 q7 r7 39, ce ct (aL q6 r6 q7 r7) M0 39 (.inr (0, 24, 0))) H := by
  exact h
theorem ws_40 {D : va_G} {ct : Nat → ClassId} {H : Heap} {q6 q7 : Nat} {r6 r7 : Nat → Nat} (h : va_at D vwCl (r6 38, .inl (ct 0, 24, .inl (fun _ => 0))) H) : va_at D vwCl (aL q6 r6 q7 r7 40, ce ct (aL q6 r6 q7 r7) M0 40 (.inr (0, 24, 0))) H := by
  exact h
theorem ws_41 {D : va_G} {ct : Nat → ClassId} {H : Heap} {q6 q7 : Nat} {r6 r7 : Nat → Nat} (h : va_at D vwCl (r6 39, .inl (ct 0, 24, .inl (fun _ => 0))) H) : va_at D vwCl (aL q6 r6 q7 r7 41, ce ct (aL q6 r6 q7 r7) M0 41 (.inr (0, 24, 0))) H := by
  exact h
theorem ws_42 {D : va_G} {ct : Nat → ClassId} {H : Heap} {q6 q7 : Nat} {r6 r7 : Nat → Nat} (h : va_at D vwCl (r6 40, .inl (ct 1, 25, .inr (.inl (fun _ => 0)))) H) : va_at D vwCl (aL q6 r6 q7 r7 42, ce ct (aL q6 r6 q7 r7) M0 42 (.inr (1, 25, 0))) H := by
  exact h
theorem ws_43 {D : va_G} {ct : Nat → ClassId} {H : Heap} {q6 q7 : Nat} {r6 r7 : Nat → Nat} (h : va_at D vwCl (r6 42, .inl (ct 0, 6, .inl (fun _ => 0))) H) : va_at D vwCl (aL q6 r6 q7 r7 43, ce ct (aL q6 r6 q7 r7) M0 43 (.inr (0, 6, 0))) H := by
  exact h
theorem ws_44 {D : va_G} {ct : Nat → ClassId} {H : Heap} {q6 q7 : Nat} {r6 r7 : Nat → Nat} (h : va_at D vwCl (q7, .inr (7, [.int 0, .ref (r7 0), .long 0, .long 0, .long 1, .int 0, .ref (r7 1), .ref (r7 2), .ref (r7 3), .ref (r7 4), .ref (r7 5), .ref (r7 6), .int (3), .int (1), .int (1), .int (10), .int 0, .ref (r7 7), .ref (r7 8), .ref (r7 9), .ref (r7 10), .int (-9), .int 0, .int 0, .ref (r7 11), .ref (r7 12), .ref (r7 13), .ref (r7 14), .ref (r7 15), .ref (r7 16), .int (-9), .int 0, .ref (r7 17), .ref (r7 18), .ref (r7 19), .int 0, .ref (r7 20), .ref (r7 21), .ref (r7 22), .ref (r7 23), .ref (r7 24), .ref (r7 25), .ref (r7 26), .ref (r7 27)])) H) : va_at D vwCl (aL q6 r6 q7 r7 44, ce ct (aL q6 r6 q7 r7) M0 44 (.inl (7, [0, 48, 1, 1, 1, 0, 49, 50, 51, 52, 53, 54, 0, 0, 0, 0, 0, 55, 56, 57, 58, 0, 0, 0, 59, 60, 61, 62, 63, 64, 0, 0, 65, 66, 67, 0, 68, 69, 70, 71, 72, 73, 74, 75]))) H := by
  have o : ([0, 48, 1, 1, 1, 0, 49, 50, 51, 52, 53, 54, 0, 0, 0, 0, 0, 55, 56, 57, 58, 0, 0, 0, 59, 60, 61, 62, 63, 64, 0, 0, 65, 66, 67, 0, 68, 69, 70, 71, 72, 73, 74, 75] : List Nat).mapIdx (fun j f => fv (aL q6 r6 q7 r7) M0 44 j f) = [.int 0, .ref (r7 0), .long 0, .long 0, .long 1, .int 0, .ref (r7 1), .ref (r7 2), .ref (r7 3), .ref (r7 4), .ref (r7 5), .ref (r7 6), .int (3), .int (1), .int (1), .int (10), .int 0, .ref (r7 7), .ref (r7 8), .ref (r7 9), .ref (r7 10), .int (-9), .int 0, .int 0, .ref (r7 11), .ref (r7 12), .ref (r7 13), .ref (r7 14), .ref (r7 15), .ref (r7 16), .int (-9), .int 0, .ref (r7 17), .ref (r7 18), .ref (r7 19), .int 0, .ref (r7 20), .ref (r7 21), .ref (r7 22), .ref (r7 23), .ref (r7 24), .ref (r7 25), .ref (r7 26), .ref (r7 27)] := by
    simp only [List.mapIdx_cons, List.mapIdx_nil]
    rfl
  show va_at D vwCl (aL q6 r6 q7 r7 44, .inr (7, ([0, 48, 1, 1, 1, 0, 49, 50, 51, 52, 53, 54, 0, 0, 0, 0, 0, 55, 56, 57, 58, 0, 0, 0, 59, 60, 61, 62, 63, 64, 0, 0, 65, 66, 67, 0, 68, 69, 70, 71, 72, 73, 74, 75] : List Nat).mapIdx (fun j f => fv (aL q6 r6 q7 r7) M0 44 j f))) H
  rw [o]
  exact h
theorem ws_45 {D : va_G} {ct : Nat → ClassId} {H : Heap} {q6 q7 : Nat} {r6 r7 : Nat → Nat} (h : va_at D vwCl (r7 0, .inl (ct 0, 6, .inl (fun _ => 0))) H) : va_at D vwCl (aL q6 r6 q7 r7 45, ce ct (aL q6 r6 q7 r7) M0 45 (.inr (0, 6, 0))) H := by
  exact h
theorem ws_46 {D : va_G} {ct : Nat → ClassId} {H : Heap} {q6 q7 : Nat} {r6 r7 : Nat → Nat} (h : va_at D vwCl (r7 1, .inl (ct 0, 30, .inl (fun _ => 0))) H) : va_at D vwCl (aL q6 r6 q7 r7 46, ce ct (aL q6 r6 q7 r7) M0 46 (.inr (0, 30, 0))) H := by
  exact h
theorem ws_47 {D : va_G} {ct : Nat → ClassId} {H : Heap} {q6 q7 : Nat} {r6 r7 : Nat → Nat} (h : va_at D vwCl (r7 2, .inl (ct 0, 10, .inl (fun _ => 0))) H) : va_at D vwCl (aL q6 r6 q7 r7 47, ce ct (aL q6 r6 q7 r7) M0 47 (.inr (0, 10, 0))) H := by
  exact h
theorem ws_48 {D : va_G} {ct : Nat → ClassId} {H : Heap} {q6 q7 : Nat} {r6 r7 : Nat → Nat} (h : va_at D vwCl (r7 3, .inl (ct 0, 10, .inl (fun _ => 0))) H) : va_at D vwCl (aL q6 r6 q7 r7 48, ce ct (aL q6 r6 q7 r7) M0 48 (.inr (0, 10, 0))) H := by
  exact h
theorem ws_49 {D : va_G} {ct : Nat → ClassId} {H : Heap} {q6 q7 : Nat} {r6 r7 : Nat → Nat} (h : va_at D vwCl (r7 4, .inl (ct 2, 10, .inl (fun _ => 0))) H) : va_at D vwCl (aL q6 r6 q7 r7 49, ce ct (aL q6 r6 q7 r7) M0 49 (.inr (2, 10, 0))) H := by
  exact h
theorem ws_50 {D : va_G} {ct : Nat → ClassId} {H : Heap} {q6 q7 : Nat} {r6 r7 : Nat → Nat} (h : va_at D vwCl (r7 5, .inl (ct 0, 16, .inl (flF 16 250 (fun _ => 0)))) H) : va_at D vwCl (aL q6 r6 q7 r7 50, ce ct (aL q6 r6 q7 r7) M0 50 (.inr (0, 16, 0))) H := by
  exact h
theorem ws_51 {D : va_G} {ct : Nat → ClassId} {H : Heap} {q6 q7 : Nat} {r6 r7 : Nat → Nat} (h : va_at D vwCl (r7 6, .inl (ct 0, 4, .inl (flF 4 250 (fun _ => 0)))) H) : va_at D vwCl (aL q6 r6 q7 r7 51, ce ct (aL q6 r6 q7 r7) M0 51 (.inr (0, 4, 0))) H := by
  exact h
theorem ws_52 {D : va_G} {ct : Nat → ClassId} {H : Heap} {q6 q7 : Nat} {r6 r7 : Nat → Nat} (h : va_at D vwCl (r7 7, .inl (ct 0, 200, .inl (fun _ => 0))) H) : va_at D vwCl (aL q6 r6 q7 r7 52, ce ct (aL q6 r6 q7 r7) M0 52 (.inr (0, 200, 0))) H := by
  exact h
theorem ws_53 {D : va_G} {ct : Nat → ClassId} {H : Heap} {q6 q7 : Nat} {r6 r7 : Nat → Nat} (h : va_at D vwCl (r7 8, .inl (ct 1, 200, .inr (.inl (fun _ => 0)))) H) : va_at D vwCl (aL q6 r6 q7 r7 53, ce ct (aL q6 r6 q7 r7) M0 53 (.inr (1, 200, 0))) H := by
  exact h
theorem ws_54 {D : va_G} {ct : Nat → ClassId} {H : Heap} {q6 q7 : Nat} {r6 r7 : Nat → Nat} (h : va_at D vwCl (r7 9, .inl (ct 1, 200, .inr (.inl (fun _ => 0)))) H) : va_at D vwCl (aL q6 r6 q7 r7 54, ce ct (aL q6 r6 q7 r7) M0 54 (.inr (1, 200, 0))) H := by
  exact h
theorem ws_55 {D : va_G} {ct : Nat → ClassId} {H : Heap} {q6 q7 : Nat} {r6 r7 : Nat → Nat} (h : va_at D vwCl (r7 10, .inl (ct 0, 200, .inl (fun _ => 0))) H) : va_at D vwCl (aL q6 r6 q7 r7 55, ce ct (aL q6 r6 q7 r7) M0 55 (.inr (0, 200, 0))) H := by
  exact h
theorem ws_56 {D : va_G} {ct : Nat → ClassId} {H : Heap} {q6 q7 : Nat} {r6 r7 : Nat → Nat} (h : va_at D vwCl (r7 11, .inl (ct 0, 5, .inl (fun _ => 0))) H) : va_at D vwCl (aL q6 r6 q7 r7 56, ce ct (aL q6 r6 q7 r7) M0 56 (.inr (0, 5, 0))) H := by
  exact h
theorem ws_57 {D : va_G} {ct : Nat → ClassId} {H : Heap} {q6 q7 : Nat} {r6 r7 : Nat → Nat} (h : va_at D vwCl (r7 12, .inl (ct 0, 5, .inl (fun _ => 0))) H) : va_at D vwCl (aL q6 r6 q7 r7 57, ce ct (aL q6 r6 q7 r7) M0 57 (.inr (0, 5, 0))) H := by
  exact h
theorem ws_58 {D : va_G} {ct : Nat → ClassId} {H : Heap} {q6 q7 : Nat} {r6 r7 : Nat → Nat} (h : va_at D vwCl (r7 13, .inl (ct 0, 4, .inl (fun _ => 0))) H) : va_at D vwCl (aL q6 r6 q7 r7 58, ce ct (aL q6 r6 q7 r7) M0 58 (.inr (0, 4, 0))) H := by
  exact h
theorem ws_59 {D : va_G} {ct : Nat → ClassId} {H : Heap} {q6 q7 : Nat} {r6 r7 : Nat → Nat} (h : va_at D vwCl (r7 14, .inl (ct 0, 4, .inl (fun _ => 0))) H) : va_at D vwCl (aL q6 r6 q7 r7 59, ce ct (aL q6 r6 q7 r7) M0 59 (.inr (0, 4, 0))) H := by
  exact h
theorem ws_60 {D : va_G} {ct : Nat → ClassId} {H : Heap} {q6 q7 : Nat} {r6 r7 : Nat → Nat} (h : va_at D vwCl (r7 15, .inl (ct 0, 7, .inl (fun _ => 0))) H) : va_at D vwCl (aL q6 r6 q7 r7 60, ce ct (aL q6 r6 q7 r7) M0 60 (.inr (0, 7, 0))) H := by
  exact h
theorem ws_61 {D : va_G} {ct : Nat → ClassId} {H : Heap} {q6 q7 : Nat} {r6 r7 : Nat → Nat} (h : va_at D vwCl (r7 16, .inl (ct 1, 5, .inr (.inl (fun _ => 0)))) H) : va_at D vwCl (aL q6 r6 q7 r7 61, ce ct (aL q6 r6 q7 r7) M0 61 (.inr (1, 5, 0))) H := by
  exact h
theorem ws_62 {D : va_G} {ct : Nat → ClassId} {H : Heap} {q6 q7 : Nat} {r6 r7 : Nat → Nat} (h : va_at D vwCl (r7 17, .inl (ct 0, 500, .inl (fun _ => 0))) H) : va_at D vwCl (aL q6 r6 q7 r7 62, ce ct (aL q6 r6 q7 r7) M0 62 (.inr (0, 500, 0))) H := by
  exact h
theorem ws_63 {D : va_G} {ct : Nat → ClassId} {H : Heap} {q6 q7 : Nat} {r6 r7 : Nat → Nat} (h : va_at D vwCl (r7 18, .inl (ct 0, 500, .inl (fun _ => 0))) H) : va_at D vwCl (aL q6 r6 q7 r7 63, ce ct (aL q6 r6 q7 r7) M0 63 (.inr (0, 500, 0))) H := by
  exact h
theorem ws_64 {D : va_G} {ct : Nat → ClassId} {H : Heap} {q6 q7 : Nat} {r6 r7 : Nat → Nat} (h : va_at D vwCl (r7 19, .inl (ct 0, 500, .inl (fun _ => 0))) H) : va_at D vwCl (aL q6 r6 q7 r7 64, ce ct (aL q6 r6 q7 r7) M0 64 (.inr (0, 500, 0))) H := by
  exact h
theorem ws_65 {D : va_G} {ct : Nat → ClassId} {H : Heap} {q6 q7 : Nat} {r6 r7 : Nat → Nat} (h : va_at D vwCl (r7 20, .inl (ct 0, 500, .inl (fun _ => 0))) H) : va_at D vwCl (aL q6 r6 q7 r7 65, ce ct (aL q6 r6 q7 r7) M0 65 (.inr (0, 500, 0))) H := by
  exact h
theorem ws_66 {D : va_G} {ct : Nat → ClassId} {H : Heap} {q6 q7 : Nat} {r6 r7 : Nat → Nat} (h : va_at D vwCl (r7 21, .inl (ct 0, 500, .inl (fun _ => 0))) H) : va_at D vwCl (aL q6 r6 q7 r7 66, ce ct (aL q6 r6 q7 r7) M0 66 (.inr (0, 500, 0))) H := by
  exact h
theorem ws_67 {D : va_G} {ct : Nat → ClassId} {H : Heap} {q6 q7 : Nat} {r6 r7 : Nat → Nat} (h : va_at D vwCl (r7 22, .inl (ct 2, 7, .inl (fun _ => 0))) H) : va_at D vwCl (aL q6 r6 q7 r7 67, ce ct (aL q6 r6 q7 r7) M0 67 (.inr (2, 7, 0))) H := by
  exact h
theorem ws_68 {D : va_G} {ct : Nat → ClassId} {H : Heap} {q6 q7 : Nat} {r6 r7 : Nat → Nat} (h : va_at D vwCl (r7 23, .inl (ct 0, 168, .inl (fun _ => 0))) H) : va_at D vwCl (aL q6 r6 q7 r7 68, ce ct (aL q6 r6 q7 r7) M0 68 (.inr (0, 168, 0))) H := by
  exact h
theorem ws_69 {D : va_G} {ct : Nat → ClassId} {H : Heap} {q6 q7 : Nat} {r6 r7 : Nat → Nat} (h : va_at D vwCl (r7 24, .inl (ct 0, 24, .inl (fun _ => 0))) H) : va_at D vwCl (aL q6 r6 q7 r7 69, ce ct (aL q6 r6 q7 r7) M0 69 (.inr (0, 24, 0))) H := by
  exact h
theorem ws_70 {D : va_G} {ct : Nat → ClassId} {H : Heap} {q6 q7 : Nat} {r6 r7 : Nat → Nat} (h : va_at D vwCl (r7 25, .inl (ct 0, 24, .inl (fun _ => 0))) H) : va_at D vwCl (aL q6 r6 q7 r7 70, ce ct (aL q6 r6 q7 r7) M0 70 (.inr (0, 24, 0))) H := by
  exact h
theorem ws_71 {D : va_G} {ct : Nat → ClassId} {H : Heap} {q6 q7 : Nat} {r6 r7 : Nat → Nat} (h : va_at D vwCl (r7 26, .inl (ct 0, 26, .inl (fun _ => 0))) H) : va_at D vwCl (aL q6 r6 q7 r7 71, ce ct (aL q6 r6 q7 r7) M0 71 (.inr (0, 26, 0))) H := by
  exact h
theorem ws_72 {D : va_G} {ct : Nat → ClassId} {H : Heap} {q6 q7 : Nat} {r6 r7 : Nat → Nat} (h : va_at D vwCl (r7 27, .inl (ct 0, 26, .inl (fun _ => 0))) H) : va_at D vwCl (aL q6 r6 q7 r7 72, ce ct (aL q6 r6 q7 r7) M0 72 (.inr (0, 26, 0))) H := by
  exact h
