/-! the law's loop -/
section LAWL
variable {p : Program} {l : Launch} {e : Env} {s : State} {m : MethodId} {below : List Frame} {meth : Method} {c : Code} {D : va_G} {ct : Nat → ClassId} {a : Nat → Nat} {b L k : Nat} {xs : Nat → Int32} {M : Mm}
theorem law_end (C : LCx p s m meth c D ct a b) : LKW p l e s m below meth c D ct a b k M 1257 [] := by
  refine q_iconst (v := 1) C dL_law_1257 (by decide) ?_
  exact fun H locs ls hP hS hl => va_forget (fun q hq => hS.2.2 q hq) (lw_ret C.1.1 C.1.2.1 C.2.2.2.2.2.2.2 C.2.2.2.2.2.2.1 dL_law_1258)
theorem law_ts {v : Int32} (C : LCx p s m meth c D ct a b) (hX : va_X b L xs s s.heap) (hbl : b < s.heap.size) (hbA : ¬ LA s b) (hL : L ≤ 3072) (hk : k + 6 ≤ L) (h : RX M M) (next : ∀ M1, RX M1 M1 → LKW p l e s m below meth c D ct a b k M1 1251 []) : LKW p l e s m below meth c D ct a b k M 33 [.int v] := by
  refine q_by (v.toInt < 0 ∨ 38 < v.toInt) (fun o => q_tsOut (tgt := 1251) C dL_law_33 o (by decide) (next _ h)) (fun o => ?_)
  refine q_by (v = (0 : Int32)) (fun q => q_tsIn (v := 0) (off := 171) (tgt := 204) C dL_law_33 q (by decide) (by decide) (by decide) (by decide) (lw_case_0 C hX hbl hbA hL hk h next)) (fun n0 => ?_)
  refine q_by (v = (1 : Int32)) (fun q => q_tsIn (v := 1) (off := 214) (tgt := 247) C dL_law_33 q (by decide) (by decide) (by decide) (by decide) (lw_case_1 C hX hbl hbA hL hk h next)) (fun n1 => ?_)
  refine q_by (v = (2 : Int32)) (fun q => q_tsIn (v := 2) (off := 237) (tgt := 270) C dL_law_33 q (by decide) (by decide) (by decide) (by decide) (lw_case_2 C hX hbl hbA hL hk h next)) (fun n2 => ?_)
  refine q_by (v = (3 : Int32)) (fun q => q_tsIn (v := 3) (off := 270) (tgt := 303) C dL_law_33 q (by decide) (by decide) (by decide) (by decide) (lw_case_3 C hX hbl hbA hL hk h next)) (fun n3 => ?_)
  refine q_by (v = (4 : Int32)) (fun q => q_tsIn (v := 4) (off := 283) (tgt := 316) C dL_law_33 q (by decide) (by decide) (by decide) (by decide) (lw_case_4 C hX hbl hbA hL hk h next)) (fun n4 => ?_)
  refine q_by (v = (5 : Int32)) (fun q => q_tsIn (v := 5) (off := 306) (tgt := 339) C dL_law_33 q (by decide) (by decide) (by decide) (by decide) (lw_case_5 C hX hbl hbA hL hk h next)) (fun n5 => ?_)
  refine q_by (v = (6 : Int32)) (fun q => q_tsIn (v := 6) (off := 319) (tgt := 352) C dL_law_33 q (by decide) (by decide) (by decide) (by decide) (lw_case_6 C hX hbl hbA hL hk h next)) (fun n6 => ?_)
  refine q_by (v = (7 : Int32)) (fun q => q_tsIn (v := 7) (off := 372) (tgt := 405) C dL_law_33 q (by decide) (by decide) (by decide) (by decide) (lw_case_7 C hX hbl hbA hL hk h next)) (fun n7 => ?_)
  refine q_by (v = (8 : Int32)) (fun q => q_tsIn (v := 8) (off := 415) (tgt := 448) C dL_law_33 q (by decide) (by decide) (by decide) (by decide) (lw_case_8 C hX hbl hbA hL hk h next)) (fun n8 => ?_)
  refine q_by (v = (9 : Int32)) (fun q => q_tsIn (v := 9) (off := 438) (tgt := 471) C dL_law_33 q (by decide) (by decide) (by decide) (by decide) (lw_case_9 C hX hbl hbA hL hk h next)) (fun n9 => ?_)
  refine q_by (v = (10 : Int32)) (fun q => q_tsIn (v := 10) (off := 461) (tgt := 494) C dL_law_33 q (by decide) (by decide) (by decide) (by decide) (lw_case_10 C hX hbl hbA hL hk h next)) (fun n10 => ?_)
  refine q_by (v = (11 : Int32)) (fun q => q_tsIn (v := 11) (off := 474) (tgt := 507) C dL_law_33 q (by decide) (by decide) (by decide) (by decide) (lw_case_11 C hX hbl hbA hL hk h next)) (fun n11 => ?_)
  refine q_by (v = (12 : Int32)) (fun q => q_tsIn (v := 12) (off := 507) (tgt := 540) C dL_law_33 q (by decide) (by decide) (by decide) (by decide) (lw_case_12 C hX hbl hbA hL hk h next)) (fun n12 => ?_)
  refine q_by (v = (13 : Int32)) (fun q => q_tsIn (v := 13) (off := 540) (tgt := 573) C dL_law_33 q (by decide) (by decide) (by decide) (by decide) (lw_case_13 C hX hbl hbA hL hk h next)) (fun n13 => ?_)
  refine q_by (v = (14 : Int32)) (fun q => q_tsIn (v := 14) (off := 579) (tgt := 612) C dL_law_33 q (by decide) (by decide) (by decide) (by decide) (lw_case_14 C hX hbl hbA hL hk h next)) (fun n14 => ?_)
  refine q_by (v = (15 : Int32)) (fun q => q_tsIn (v := 15) (off := 592) (tgt := 625) C dL_law_33 q (by decide) (by decide) (by decide) (by decide) (lw_case_15 C hX hbl hbA hL hk h next)) (fun n15 => ?_)
  refine q_by (v = (16 : Int32)) (fun q => q_tsIn (v := 16) (off := 605) (tgt := 638) C dL_law_33 q (by decide) (by decide) (by decide) (by decide) (lw_case_16 C hX hbl hbA hL hk h next)) (fun n16 => ?_)
  refine q_by (v = (17 : Int32)) (fun q => q_tsIn (v := 17) (off := 648) (tgt := 681) C dL_law_33 q (by decide) (by decide) (by decide) (by decide) (lw_case_17 C hX hbl hbA hL hk h next)) (fun n17 => ?_)
  refine q_by (v = (18 : Int32)) (fun q => q_tsIn (v := 18) (off := 661) (tgt := 694) C dL_law_33 q (by decide) (by decide) (by decide) (by decide) (lw_case_18 C hX hbl hbA hL hk h next)) (fun n18 => ?_)
  refine q_by (v = (19 : Int32)) (fun q => q_tsIn (v := 19) (off := 694) (tgt := 727) C dL_law_33 q (by decide) (by decide) (by decide) (by decide) (lw_case_19 C hX hbl hbA hL hk h next)) (fun n19 => ?_)
  refine q_by (v = (20 : Int32)) (fun q => q_tsIn (v := 20) (off := 727) (tgt := 760) C dL_law_33 q (by decide) (by decide) (by decide) (by decide) (lw_case_20 C hX hbl hbA hL hk h next)) (fun n20 => ?_)
  refine q_by (v = (21 : Int32)) (fun q => q_tsIn (v := 21) (off := 750) (tgt := 783) C dL_law_33 q (by decide) (by decide) (by decide) (by decide) (lw_case_21 C hX hbl hbA hL hk h next)) (fun n21 => ?_)
  refine q_by (v = (22 : Int32)) (fun q => q_tsIn (v := 22) (off := 773) (tgt := 806) C dL_law_33 q (by decide) (by decide) (by decide) (by decide) (lw_case_22 C hX hbl hbA hL hk h next)) (fun n22 => ?_)
  refine q_by (v = (23 : Int32)) (fun q => q_tsIn (v := 23) (off := 786) (tgt := 819) C dL_law_33 q (by decide) (by decide) (by decide) (by decide) (lw_case_23 C hX hbl hbA hL hk h next)) (fun n23 => ?_)
  refine q_by (v = (24 : Int32)) (fun q => q_tsIn (v := 24) (off := 819) (tgt := 852) C dL_law_33 q (by decide) (by decide) (by decide) (by decide) (lw_case_24 C hX hbl hbA hL hk h next)) (fun n24 => ?_)
  refine q_by (v = (25 : Int32)) (fun q => q_tsIn (v := 25) (off := 852) (tgt := 885) C dL_law_33 q (by decide) (by decide) (by decide) (by decide) (lw_case_25 C hX hbl hbA hL hk h next)) (fun n25 => ?_)
  refine q_by (v = (26 : Int32)) (fun q => q_tsIn (v := 26) (off := 885) (tgt := 918) C dL_law_33 q (by decide) (by decide) (by decide) (by decide) (lw_case_26 C hX hbl hbA hL hk h next)) (fun n26 => ?_)
  refine q_by (v = (27 : Int32)) (fun q => q_tsIn (v := 27) (off := 908) (tgt := 941) C dL_law_33 q (by decide) (by decide) (by decide) (by decide) (lw_case_27 C hX hbl hbA hL hk h next)) (fun n27 => ?_)
  refine q_by (v = (28 : Int32)) (fun q => q_tsIn (v := 28) (off := 951) (tgt := 984) C dL_law_33 q (by decide) (by decide) (by decide) (by decide) (lw_case_28 C hX hbl hbA hL hk h next)) (fun n28 => ?_)
  refine q_by (v = (29 : Int32)) (fun q => q_tsIn (v := 29) (off := 974) (tgt := 1007) C dL_law_33 q (by decide) (by decide) (by decide) (by decide) (lw_case_29 C hX hbl hbA hL hk h next)) (fun n29 => ?_)
  refine q_by (v = (30 : Int32)) (fun q => q_tsIn (v := 30) (off := 1037) (tgt := 1070) C dL_law_33 q (by decide) (by decide) (by decide) (by decide) (lw_case_30 C hX hbl hbA hL hk h next)) (fun n30 => ?_)
  refine q_by (v = (31 : Int32)) (fun q => q_tsIn (v := 31) (off := 1070) (tgt := 1103) C dL_law_33 q (by decide) (by decide) (by decide) (by decide) (lw_case_31 C hX hbl hbA hL hk h next)) (fun n31 => ?_)
  refine q_by (v = (32 : Int32)) (fun q => q_tsIn (v := 32) (off := 1103) (tgt := 1136) C dL_law_33 q (by decide) (by decide) (by decide) (by decide) (lw_case_32 C hX hbl hbA hL hk h next)) (fun n32 => ?_)
  refine q_by (v = (33 : Int32)) (fun q => q_tsIn (v := 33) (off := 1117) (tgt := 1150) C dL_law_33 q (by decide) (by decide) (by decide) (by decide) (lw_case_33 C hX hbl hbA hL hk h next)) (fun n33 => ?_)
  refine q_by (v = (34 : Int32)) (fun q => q_tsIn (v := 34) (off := 1131) (tgt := 1164) C dL_law_33 q (by decide) (by decide) (by decide) (by decide) (lw_case_34 C hX hbl hbA hL hk h next)) (fun n34 => ?_)
  refine q_by (v = (35 : Int32)) (fun q => q_tsIn (v := 35) (off := 1145) (tgt := 1178) C dL_law_33 q (by decide) (by decide) (by decide) (by decide) (lw_case_35 C hX hbl hbA hL hk h next)) (fun n35 => ?_)
  refine q_by (v = (36 : Int32)) (fun q => q_tsIn (v := 36) (off := 1168) (tgt := 1201) C dL_law_33 q (by decide) (by decide) (by decide) (by decide) (lw_case_36 C hX hbl hbA hL hk h next)) (fun n36 => ?_)
  refine q_by (v = (37 : Int32)) (fun q => q_tsIn (v := 37) (off := 1181) (tgt := 1214) C dL_law_33 q (by decide) (by decide) (by decide) (by decide) (lw_case_37 C hX hbl hbA hL hk h next)) (fun n37 => ?_)
  refine q_by (v = (38 : Int32)) (fun q => q_tsIn (v := 38) (off := 1204) (tgt := 1237) C dL_law_33 q (by decide) (by decide) (by decide) (by decide) (lw_case_38 C hX hbl hbA hL hk h next)) (fun n38 => ?_)
  exfalso
  have t0 : ¬ v.toInt = 0 := lv_neT n0 (by decide)
  have t1 : ¬ v.toInt = 1 := lv_neT n1 (by decide)
  have t2 : ¬ v.toInt = 2 := lv_neT n2 (by decide)
  have t3 : ¬ v.toInt = 3 := lv_neT n3 (by decide)
  have t4 : ¬ v.toInt = 4 := lv_neT n4 (by decide)
  have t5 : ¬ v.toInt = 5 := lv_neT n5 (by decide)
  have t6 : ¬ v.toInt = 6 := lv_neT n6 (by decide)
  have t7 : ¬ v.toInt = 7 := lv_neT n7 (by decide)
  have t8 : ¬ v.toInt = 8 := lv_neT n8 (by decide)
  have t9 : ¬ v.toInt = 9 := lv_neT n9 (by decide)
  have t10 : ¬ v.toInt = 10 := lv_neT n10 (by decide)
  have t11 : ¬ v.toInt = 11 := lv_neT n11 (by decide)
  have t12 : ¬ v.toInt = 12 := lv_neT n12 (by decide)
  have t13 : ¬ v.toInt = 13 := lv_neT n13 (by decide)
  have t14 : ¬ v.toInt = 14 := lv_neT n14 (by decide)
  have t15 : ¬ v.toInt = 15 := lv_neT n15 (by decide)
  have t16 : ¬ v.toInt = 16 := lv_neT n16 (by decide)
  have t17 : ¬ v.toInt = 17 := lv_neT n17 (by decide)
  have t18 : ¬ v.toInt = 18 := lv_neT n18 (by decide)
  have t19 : ¬ v.toInt = 19 := lv_neT n19 (by decide)
  have t20 : ¬ v.toInt = 20 := lv_neT n20 (by decide)
  have t21 : ¬ v.toInt = 21 := lv_neT n21 (by decide)
  have t22 : ¬ v.toInt = 22 := lv_neT n22 (by decide)
  have t23 : ¬ v.toInt = 23 := lv_neT n23 (by decide)
  have t24 : ¬ v.toInt = 24 := lv_neT n24 (by decide)
  have t25 : ¬ v.toInt = 25 := lv_neT n25 (by decide)
  have t26 : ¬ v.toInt = 26 := lv_neT n26 (by decide)
  have t27 : ¬ v.toInt = 27 := lv_neT n27 (by decide)
  have t28 : ¬ v.toInt = 28 := lv_neT n28 (by decide)
  have t29 : ¬ v.toInt = 29 := lv_neT n29 (by decide)
  have t30 : ¬ v.toInt = 30 := lv_neT n30 (by decide)
  have t31 : ¬ v.toInt = 31 := lv_neT n31 (by decide)
  have t32 : ¬ v.toInt = 32 := lv_neT n32 (by decide)
  have t33 : ¬ v.toInt = 33 := lv_neT n33 (by decide)
  have t34 : ¬ v.toInt = 34 := lv_neT n34 (by decide)
  have t35 : ¬ v.toInt = 35 := lv_neT n35 (by decide)
  have t36 : ¬ v.toInt = 36 := lv_neT n36 (by decide)
  have t37 : ¬ v.toInt = 37 := lv_neT n37 (by decide)
  have t38 : ¬ v.toInt = 38 := lv_neT n38 (by decide)
  omega
theorem law_loop (C : LCx p s m meth c D ct a b) (hX : va_X b L xs s s.heap) (hbl : b < s.heap.size) (hbA : ¬ LA s b) (hL : L ≤ 3072) : ∀ (n k : Nat) (M : Mm), L + 1 ≤ k + n → k ≤ 4000 → RX M M → LKW p l e s m below meth c D ct a b k M 18 [] := by
  intro n
  induction n with
  | zero =>
    intro k M hn hk4 h
    refine q_iload3 C dL_law_18 ?_
    refine q_aload0 C dL_law_19 ?_
    refine q_slen C hX hbl hbA dL_law_20 ?_
    refine q_bipush (v := 6) C dL_law_21 (by decide) ?_
    refine q_isub C dL_law_23 ?_
    refine q_icmp_gt (tgt := 1257) C dL_law_24 (by decide) (fun _ => law_end C) (fun g => ?_)
    have e : (Int32.ofNat L - 6).toInt = (L : Int) - 6 := by
      have e1 : (Int32.ofNat L).toInt = L := nI_int (i := L) (by omega)
      rw [Int32.toInt_sub, e1, show (6 : Int32).toInt = 6 by decide]
      apply Int.bmod_eq_of_le <;> omega
    rw [Int32.lt_iff_toInt_lt, e, nI_int (by omega)] at g
    exact absurd hn (by omega)
  | succ n ih =>
    intro k M hn hk4 h
    refine q_iload3 C dL_law_18 ?_
    refine q_aload0 C dL_law_19 ?_
    refine q_slen C hX hbl hbA dL_law_20 ?_
    refine q_bipush (v := 6) C dL_law_21 (by decide) ?_
    refine q_isub C dL_law_23 ?_
    refine q_icmp_gt (tgt := 1257) C dL_law_24 (by decide) (fun _ => law_end C) (fun g => ?_)
    have e : (Int32.ofNat L - 6).toInt = (L : Int) - 6 := by
      have e1 : (Int32.ofNat L).toInt = L := nI_int (i := L) (by omega)
      rw [Int32.toInt_sub, e1, show (6 : Int32).toInt = 6 by decide]
      apply Int.bmod_eq_of_le <;> omega
    rw [Int32.lt_iff_toInt_lt, e, nI_int (by omega)] at g
    have hk : k + 6 ≤ L := by omega
    refine q_aload0 C dL_law_27 ?_
    refine q_iload3 C dL_law_28 ?_
    refine q_sld C hX hbl hbA (vp_in_nI (by omega) (by omega)) dL_law_29 ?_
    refine q_bipush (v := 63) C dL_law_30 (by decide) ?_
    refine q_iand C dL_law_32 ?_
    refine law_ts C hX hbl hbA hL hk h (fun M1 h1 => ?_)
    refine q_iinc3 (dv := 6) C dL_law_1251 (by decide) (by decide) (fun w _ q => by cases q; rfl) ?_
    refine q_goto (tgt := 18) C dL_law_1254 (by decide) ?_
    have e6 : nI k + 6 = nI (k + 6) := nA k 6
    rw [e6]
    exact ih (k + 6) M1 (by omega) (by omega) h1
end LAWL
