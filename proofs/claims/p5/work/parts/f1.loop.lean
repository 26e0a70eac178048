set_option maxHeartbeats 40000000 in
set_option maxRecDepth 100000 in
theorem law_sw {p : Program} {e : Env} {s : State} {m : MethodId} {below : List Frame} {meth : Method} {c : Code} (l : Launch) {b L : Nat} {xs : Nat → Int32} {A : Nat → Prop} {D : va_G} {k : Nat → ClassId} {sa sv : Nat} {i : Int} (C : LFX p s m meth c b L xs A D k sa sv) (hi : 0 ≤ i ∧ i + 6 ≤ (L : Int)) (hk : LAT p l e s m below meth c b A D k 2846 i) (a : Nat → Nat) (I : Nat → Int) (Lg : Nat → Int64) (F : Nat → Nat → Int32) (G : Nat → Nat → Int64) (V : Nat → Value) (r : Ry) (H : Heap) (locs : List Loc) (ls : Array Slot) (hI : INV I F) (hRT : RT k r) (hP : va_P D vwCl (WLL k a I Lg F G V r ++ r.tl) H) (hD : va_D A (WLL k a I Lg F G V r ++ r.tl)) (hS : va_S A s.heap H locs) (hl : lv_has ls 4 [(3, .int (iZ i)), (2, .ref (a 106)), (1, .ref (a 0)), (0, .ref b)]) (j : Nat) (hj : j < 128) : W p l e room_1 s m #[Value.ref b] below meth c H locs (123 + cz true r.b) (16705 + sz true r.b) (lw_Z below #[Value.ref b] s) (F0 m 33 ls [.int (nI j)]) := by
  obtain ⟨hx, hb, hr, hml, hown, hts, hKK, hX, hbl, hbA, hA, hAf, hlocks, hSY, hRR, hL⟩ := id C
  match j, hj with
  | 0, _ => exact lv_tableIn (tgt := 344) (off := 311) hx hb dL_law_33 (by decide) (by decide) (by decide +kernel) (by decide) (law_c0 l C hi hk a I Lg F G V r H locs ls hI hRT hP hD hS hl)
  | 1, _ => exact lv_tableIn (tgt := 357) (off := 324) hx hb dL_law_33 (by decide) (by decide) (by decide +kernel) (by decide) (law_c1 l C hi hk a I Lg F G V r H locs ls hI hRT hP hD hS hl)
  | 2, _ => exact lv_tableIn (tgt := 370) (off := 337) hx hb dL_law_33 (by decide) (by decide) (by decide +kernel) (by decide) (law_c2 l C hi hk a I Lg F G V r H locs ls hI hRT hP hD hS hl)
  | 3, _ => exact lv_tableIn (tgt := 383) (off := 350) hx hb dL_law_33 (by decide) (by decide) (by decide +kernel) (by decide) (law_c3 l C hi hk a I Lg F G V r H locs ls hI hRT hP hD hS hl)
  | 4, _ => exact lv_tableIn (tgt := 426) (off := 393) hx hb dL_law_33 (by decide) (by decide) (by decide +kernel) (by decide) (law_c4 l C hi hk a I Lg F G V r H locs ls hI hRT hP hD hS hl)
  | 5, _ => exact lv_tableIn (tgt := 499) (off := 466) hx hb dL_law_33 (by decide) (by decide) (by decide +kernel) (by decide) (law_c5 l C hi hk a I Lg F G V r H locs ls hI hRT hP hD hS hl)
  | 6, _ => exact lv_tableIn (tgt := 532) (off := 499) hx hb dL_law_33 (by decide) (by decide) (by decide +kernel) (by decide) (law_c6 l C hi hk a I Lg F G V r H locs ls hI hRT hP hD hS hl)
  | 7, _ => exact lv_tableIn (tgt := 595) (off := 562) hx hb dL_law_33 (by decide) (by decide) (by decide +kernel) (by decide) (law_c7 l C hi hk a I Lg F G V r H locs ls hI hRT hP hD hS hl)
  | 8, _ => exact lv_tableIn (tgt := 658) (off := 625) hx hb dL_law_33 (by decide) (by decide) (by decide +kernel) (by decide) (law_c8 l C hi hk a I Lg F G V r H locs ls hI hRT hP hD hS hl)
  | 9, _ => exact lv_tableIn (tgt := 681) (off := 648) hx hb dL_law_33 (by decide) (by decide) (by decide +kernel) (by decide) (law_c9 l C hi hk a I Lg F G V r H locs ls hI hRT hP hD hS hl)
  | 10, _ => exact lv_tableIn (tgt := 704) (off := 671) hx hb dL_law_33 (by decide) (by decide) (by decide +kernel) (by decide) (law_c10 l C hi hk a I Lg F G V r H locs ls hI hRT hP hD hS hl)
  | 11, _ => exact lv_tableIn (tgt := 727) (off := 694) hx hb dL_law_33 (by decide) (by decide) (by decide +kernel) (by decide) (law_c11 l C hi hk a I Lg F G V r H locs ls hI hRT hP hD hS hl)
  | 12, _ => exact lv_tableIn (tgt := 750) (off := 717) hx hb dL_law_33 (by decide) (by decide) (by decide +kernel) (by decide) (law_c12 l C hi hk a I Lg F G V r H locs ls hI hRT hP hD hS hl)
  | 13, _ => exact lv_tableIn (tgt := 783) (off := 750) hx hb dL_law_33 (by decide) (by decide) (by decide +kernel) (by decide) (law_c13 l C hi hk a I Lg F G V r H locs ls hI hRT hP hD hS hl)
  | 14, _ => exact lv_tableIn (tgt := 816) (off := 783) hx hb dL_law_33 (by decide) (by decide) (by decide +kernel) (by decide) (law_c14 l C hi hk a I Lg F G V r H locs ls hI hRT hP hD hS hl)
  | 15, _ => exact lv_tableIn (tgt := 849) (off := 816) hx hb dL_law_33 (by decide) (by decide) (by decide +kernel) (by decide) (law_c15 l C hi hk a I Lg F G V r H locs ls hI hRT hP hD hS hl)
  | 16, _ => exact lv_tableIn (tgt := 902) (off := 869) hx hb dL_law_33 (by decide) (by decide) (by decide +kernel) (by decide) (law_c16 l C hi hk a I Lg F G V r H locs ls hI hRT hP hD hS hl)
  | 17, _ => exact lv_tableIn (tgt := 945) (off := 912) hx hb dL_law_33 (by decide) (by decide) (by decide +kernel) (by decide) (law_c17 l C hi hk a I Lg F G V r H locs ls hI hRT hP hD hS hl)
  | 18, _ => exact lv_tableIn (tgt := 988) (off := 955) hx hb dL_law_33 (by decide) (by decide) (by decide +kernel) (by decide) (law_c18 l C hi hk a I Lg F G V r H locs ls hI hRT hP hD hS hl)
  | 19, _ => exact lv_tableIn (tgt := 1031) (off := 998) hx hb dL_law_33 (by decide) (by decide) (by decide +kernel) (by decide) (law_c19 l C hi hk a I Lg F G V r H locs ls hI hRT hP hD hS hl)
  | 20, _ => exact lv_tableIn (tgt := 1074) (off := 1041) hx hb dL_law_33 (by decide) (by decide) (by decide +kernel) (by decide) (law_c20 l C hi hk a I Lg F G V r H locs ls hI hRT hP hD hS hl)
  | 21, _ => exact lv_tableIn (tgt := 1107) (off := 1074) hx hb dL_law_33 (by decide) (by decide) (by decide +kernel) (by decide) (law_c21 l C hi hk a I Lg F G V r H locs ls hI hRT hP hD hS hl)
  | 22, _ => exact lv_tableIn (tgt := 1160) (off := 1127) hx hb dL_law_33 (by decide) (by decide) (by decide +kernel) (by decide) (law_c22 l C hi hk a I Lg F G V r H locs ls hI hRT hP hD hS hl)
  | 23, _ => exact lv_tableIn (tgt := 1183) (off := 1150) hx hb dL_law_33 (by decide) (by decide) (by decide +kernel) (by decide) (law_c23 l C hi hk a I Lg F G V r H locs ls hI hRT hP hD hS hl)
  | 24, _ => exact lv_tableIn (tgt := 1226) (off := 1193) hx hb dL_law_33 (by decide) (by decide) (by decide +kernel) (by decide) (law_c24 l C hi hk a I Lg F G V r H locs ls hI hRT hP hD hS hl)
  | 25, _ => exact lv_tableIn (tgt := 1249) (off := 1216) hx hb dL_law_33 (by decide) (by decide) (by decide +kernel) (by decide) (law_c25 l C hi hk a I Lg F G V r H locs ls hI hRT hP hD hS hl)
  | 26, _ => exact lv_tableIn (tgt := 1302) (off := 1269) hx hb dL_law_33 (by decide) (by decide) (by decide +kernel) (by decide) (law_c26 l C hi hk a I Lg F G V r H locs ls hI hRT hP hD hS hl)
  | 27, _ => exact lv_tableIn (tgt := 1345) (off := 1312) hx hb dL_law_33 (by decide) (by decide) (by decide +kernel) (by decide) (law_c27 l C hi hk a I Lg F G V r H locs ls hI hRT hP hD hS hl)
  | 28, _ => exact lv_tableIn (tgt := 1388) (off := 1355) hx hb dL_law_33 (by decide) (by decide) (by decide +kernel) (by decide) (law_c28 l C hi hk a I Lg F G V r H locs ls hI hRT hP hD hS hl)
  | 29, _ => exact lv_tableIn (tgt := 1431) (off := 1398) hx hb dL_law_33 (by decide) (by decide) (by decide +kernel) (by decide) (law_c29 l C hi hk a I Lg F G V r H locs ls hI hRT hP hD hS hl)
  | 30, _ => exact lv_tableIn (tgt := 1474) (off := 1441) hx hb dL_law_33 (by decide) (by decide) (by decide +kernel) (by decide) (law_c30 l C hi hk a I Lg F G V r H locs ls hI hRT hP hD hS hl)
  | 31, _ => exact lv_tableIn (tgt := 1507) (off := 1474) hx hb dL_law_33 (by decide) (by decide) (by decide +kernel) (by decide) (law_c31 l C hi hk a I Lg F G V r H locs ls hI hRT hP hD hS hl)
  | 32, _ => exact lv_tableIn (tgt := 1550) (off := 1517) hx hb dL_law_33 (by decide) (by decide) (by decide +kernel) (by decide) (law_c32 l C hi hk a I Lg F G V r H locs ls hI hRT hP hD hS hl)
  | 33, _ => exact lv_tableIn (tgt := 1583) (off := 1550) hx hb dL_law_33 (by decide) (by decide) (by decide +kernel) (by decide) (law_c33 l C hi hk a I Lg F G V r H locs ls hI hRT hP hD hS hl)
  | 34, _ => exact lv_tableIn (tgt := 1606) (off := 1573) hx hb dL_law_33 (by decide) (by decide) (by decide +kernel) (by decide) (law_c34 l C hi hk a I Lg F G V r H locs ls hI hRT hP hD hS hl)
  | 35, _ => exact lv_tableIn (tgt := 1639) (off := 1606) hx hb dL_law_33 (by decide) (by decide) (by decide +kernel) (by decide) (law_c35 l C hi hk a I Lg F G V r H locs ls hI hRT hP hD hS hl)
  | 36, _ => exact lv_tableIn (tgt := 1672) (off := 1639) hx hb dL_law_33 (by decide) (by decide) (by decide +kernel) (by decide) (law_c36 l C hi hk a I Lg F G V r H locs ls hI hRT hP hD hS hl)
  | 37, _ => exact lv_tableIn (tgt := 1695) (off := 1662) hx hb dL_law_33 (by decide) (by decide) (by decide +kernel) (by decide) (law_c37 l C hi hk a I Lg F G V r H locs ls hI hRT hP hD hS hl)
  | 38, _ => exact lv_tableIn (tgt := 1718) (off := 1685) hx hb dL_law_33 (by decide) (by decide) (by decide +kernel) (by decide) (law_c38 l C hi hk a I Lg F G V r H locs ls hI hRT hP hD hS hl)
  | 39, _ => exact lv_tableIn (tgt := 1751) (off := 1718) hx hb dL_law_33 (by decide) (by decide) (by decide +kernel) (by decide) (law_c39 l C hi hk a I Lg F G V r H locs ls hI hRT hP hD hS hl)
  | 40, _ => exact lv_tableIn (tgt := 1784) (off := 1751) hx hb dL_law_33 (by decide) (by decide) (by decide +kernel) (by decide) (law_c40 l C hi hk a I Lg F G V r H locs ls hI hRT hP hD hS hl)
  | 41, _ => exact lv_tableIn (tgt := 1817) (off := 1784) hx hb dL_law_33 (by decide) (by decide) (by decide +kernel) (by decide) (law_c41 l C hi hk a I Lg F G V r H locs ls hI hRT hP hD hS hl)
  | 42, _ => exact lv_tableIn (tgt := 1850) (off := 1817) hx hb dL_law_33 (by decide) (by decide) (by decide +kernel) (by decide) (law_c42 l C hi hk a I Lg F G V r H locs ls hI hRT hP hD hS hl)
  | 43, _ => exact lv_tableIn (tgt := 1893) (off := 1860) hx hb dL_law_33 (by decide) (by decide) (by decide +kernel) (by decide) (law_c43 l C hi hk a I Lg F G V r H locs ls hI hRT hP hD hS hl)
  | 44, _ => exact lv_tableIn (tgt := 1926) (off := 1893) hx hb dL_law_33 (by decide) (by decide) (by decide +kernel) (by decide) (law_c44 l C hi hk a I Lg F G V r H locs ls hI hRT hP hD hS hl)
  | 45, _ => exact lv_tableIn (tgt := 1939) (off := 1906) hx hb dL_law_33 (by decide) (by decide) (by decide +kernel) (by decide) (law_c45 l C hi hk a I Lg F G V r H locs ls hI hRT hP hD hS hl)
  | 46, _ => exact lv_tableIn (tgt := 1962) (off := 1929) hx hb dL_law_33 (by decide) (by decide) (by decide +kernel) (by decide) (law_c46 l C hi hk a I Lg F G V r H locs ls hI hRT hP hD hS hl)
  | 47, _ => exact lv_tableIn (tgt := 1995) (off := 1962) hx hb dL_law_33 (by decide) (by decide) (by decide +kernel) (by decide) (law_c47 l C hi hk a I Lg F G V r H locs ls hI hRT hP hD hS hl)
  | 48, _ => exact lv_tableIn (tgt := 2028) (off := 1995) hx hb dL_law_33 (by decide) (by decide) (by decide +kernel) (by decide) (law_c48 l C hi hk a I Lg F G V r H locs ls hI hRT hP hD hS hl)
  | 49, _ => exact lv_tableIn (tgt := 2041) (off := 2008) hx hb dL_law_33 (by decide) (by decide) (by decide +kernel) (by decide) (law_c49 l C hi hk a I Lg F G V r H locs ls hI hRT hP hD hS hl)
  | 50, _ => exact lv_tableIn (tgt := 2084) (off := 2051) hx hb dL_law_33 (by decide) (by decide) (by decide +kernel) (by decide) (law_c50 l C hi hk a I Lg F G V r H locs ls hI hRT hP hD hS hl)
  | 51, _ => exact lv_tableIn (tgt := 2127) (off := 2094) hx hb dL_law_33 (by decide) (by decide) (by decide +kernel) (by decide) (law_c51 l C hi hk a I Lg F G V r H locs ls hI hRT hP hD hS hl)
  | 52, _ => exact lv_tableIn (tgt := 2160) (off := 2127) hx hb dL_law_33 (by decide) (by decide) (by decide +kernel) (by decide) (law_c52 l C hi hk a I Lg F G V r H locs ls hI hRT hP hD hS hl)
  | 53, _ => exact lv_tableIn (tgt := 2193) (off := 2160) hx hb dL_law_33 (by decide) (by decide) (by decide +kernel) (by decide) (law_c53 l C hi hk a I Lg F G V r H locs ls hI hRT hP hD hS hl)
  | 54, _ => exact lv_tableIn (tgt := 2236) (off := 2203) hx hb dL_law_33 (by decide) (by decide) (by decide +kernel) (by decide) (law_c54 l C hi hk a I Lg F G V r H locs ls hI hRT hP hD hS hl)
  | 55, _ => exact lv_tableIn (tgt := 2289) (off := 2256) hx hb dL_law_33 (by decide) (by decide) (by decide +kernel) (by decide) (law_c55 l C hi hk a I Lg F G V r H locs ls hI hRT hP hD hS hl)
  | 56, _ => exact lv_tableIn (tgt := 2322) (off := 2289) hx hb dL_law_33 (by decide) (by decide) (by decide +kernel) (by decide) (law_c56 l C hi hk a I Lg F G V r H locs ls hI hRT hP hD hS hl)
  | 57, _ => exact lv_tableIn (tgt := 2365) (off := 2332) hx hb dL_law_33 (by decide) (by decide) (by decide +kernel) (by decide) (law_c57 l C hi hk a I Lg F G V r H locs ls hI hRT hP hD hS hl)
  | 58, _ => exact lv_tableIn (tgt := 2408) (off := 2375) hx hb dL_law_33 (by decide) (by decide) (by decide +kernel) (by decide) (law_c58 l C hi hk a I Lg F G V r H locs ls hI hRT hP hD hS hl)
  | 59, _ => exact lv_tableIn (tgt := 2451) (off := 2418) hx hb dL_law_33 (by decide) (by decide) (by decide +kernel) (by decide) (law_c59 l C hi hk a I Lg F G V r H locs ls hI hRT hP hD hS hl)
  | 60, _ => exact lv_tableIn (tgt := 2484) (off := 2451) hx hb dL_law_33 (by decide) (by decide) (by decide +kernel) (by decide) (law_c60 l C hi hk a I Lg F G V r H locs ls hI hRT hP hD hS hl)
  | 61, _ => exact lv_tableIn (tgt := 2527) (off := 2494) hx hb dL_law_33 (by decide) (by decide) (by decide +kernel) (by decide) (law_c61 l C hi hk a I Lg F G V r H locs ls hI hRT hP hD hS hl)
  | 62, _ => exact lv_tableIn (tgt := 2550) (off := 2517) hx hb dL_law_33 (by decide) (by decide) (by decide +kernel) (by decide) (law_c62 l C hi hk a I Lg F G V r H locs ls hI hRT hP hD hS hl)
  | 63, _ => exact lv_tableIn (tgt := 2583) (off := 2550) hx hb dL_law_33 (by decide) (by decide) (by decide +kernel) (by decide) (law_c63 l C hi hk a I Lg F G V r H locs ls hI hRT hP hD hS hl)
  | 64, _ => exact lv_tableIn (tgt := 2616) (off := 2583) hx hb dL_law_33 (by decide) (by decide) (by decide +kernel) (by decide) (law_c64 l C hi hk a I Lg F G V r H locs ls hI hRT hP hD hS hl)
  | 65, _ => exact lv_tableIn (tgt := 2649) (off := 2616) hx hb dL_law_33 (by decide) (by decide) (by decide +kernel) (by decide) (law_c65 l C hi hk a I Lg F G V r H locs ls hI hRT hP hD hS hl)
  | 66, _ => exact lv_tableIn (tgt := 2682) (off := 2649) hx hb dL_law_33 (by decide) (by decide) (by decide +kernel) (by decide) (law_c66 l C hi hk a I Lg F G V r H locs ls hI hRT hP hD hS hl)
  | 67, _ => exact lv_tableIn (tgt := 2705) (off := 2672) hx hb dL_law_33 (by decide) (by decide) (by decide +kernel) (by decide) (law_c67 l C hi hk a I Lg F G V r H locs ls hI hRT hP hD hS hl)
  | 68, _ => exact lv_tableIn (tgt := 2728) (off := 2695) hx hb dL_law_33 (by decide) (by decide) (by decide +kernel) (by decide) (law_c68 l C hi hk a I Lg F G V r H locs ls hI hRT hP hD hS hl)
  | 69, _ => exact lv_tableIn (tgt := 2741) (off := 2708) hx hb dL_law_33 (by decide) (by decide) (by decide +kernel) (by decide) (law_c69 l C hi hk a I Lg F G V r H locs ls hI hRT hP hD hS hl)
  | 70, _ => exact lv_tableIn (tgt := 2764) (off := 2731) hx hb dL_law_33 (by decide) (by decide) (by decide +kernel) (by decide) (law_c70 l C hi hk a I Lg F G V r H locs ls hI hRT hP hD hS hl)
  | 71, _ => exact lv_tableIn (tgt := 2787) (off := 2754) hx hb dL_law_33 (by decide) (by decide) (by decide +kernel) (by decide) (law_c71 l C hi hk a I Lg F G V r H locs ls hI hRT hP hD hS hl)
  | 72, _ => exact lv_tableIn (tgt := 2820) (off := 2787) hx hb dL_law_33 (by decide) (by decide) (by decide +kernel) (by decide) (law_c72 l C hi hk a I Lg F G V r H locs ls hI hRT hP hD hS hl)
  | 73, _ => exact lv_tableIn (tgt := 2833) (off := 2800) hx hb dL_law_33 (by decide) (by decide) (by decide +kernel) (by decide) (law_c73 l C hi hk a I Lg F G V r H locs ls hI hRT hP hD hS hl)
  | (j + 74), hj =>
    refine lv_tableOut (tgt := 2846) hx hb dL_law_33 (Or.inr ?_) (by decide) ?_
    · rw [nI_toInt (by omega)]; omega
    · exact hk a I Lg F G V r H locs ls hI hRT hP hD hS hl
set_option maxHeartbeats 40000000 in
set_option maxRecDepth 100000 in
theorem law_loop {p : Program} {e : Env} {s : State} {m : MethodId} {below : List Frame} {meth : Method} {c : Code} (l : Launch) {b L : Nat} {xs : Nat → Int32} {A : Nat → Prop} {D : va_G} {k : Nat → ClassId} {sa sv : Nat} (C : LFX p s m meth c b L xs A D k sa sv) : ∀ (fu : Nat) (i : Int), 0 ≤ i → i ≤ (L : Int) → (L : Int) - i < (fu : Int) → LAT p l e s m below meth c b A D k 18 i := by
  intro fu
  induction fu with
  | zero => intro i h1 h2 h3; exact absurd h3 (by omega)
  | succ fu ih =>
    intro i h1 h2 h3 a I Lg F G V r H locs ls hI hRT hP hD hS hl
    obtain ⟨hx, hb, hr, hml, hown, hts, hKK, hX, hbl, hbA, hA, hAf, hlocks, hSY, hRR, hL⟩ := id C
    refine lv_iload_n hx hb dL_law_18 rfl (lv_at hl 0 rfl) ?_
    refine lv_aload_n hx hb dL_law_19 rfl (lv_at hl 3 rfl) ?_
    refine va_slen hx hb hX hbl hbA hS dL_law_20 ?_
    refine lv_bipush (v := iZ 6) hx hb dL_law_21 (by decide) ?_
    refine lv_isub hx hb dL_law_23 ?_
    refine lv_topi (fun x ex => ?_)
    obtain rfl : x = iZ ((L : Int) - 6) := ex.trans (by rw [show Int32.ofNat L = iZ (L : Int) from (iZ_nat L).symm]; exact iZ_sub _ _)
    refine lv_icmp_gt (tgt := 2852) hx hb dL_law_24 (by decide) (fun cg => ?_) (fun cg => ?_)
    · refine lv_iconst (v := 1) hx hb dL_law_2852 (by decide) ?_
      refine va_forget (fun q h => hAf _ (hS.2.2 q h)) ?_
      refine W.widen (k := 600000) (n := 7302250) (Nat.le_trans (lroom r.b).1 (Nat.le_refl _)) (Nat.le_trans (lroom r.b).2 (Nat.le_refl _)) ?_
      exact lw_ret hx hb hr hlocks dL_law_2853
    · have cg := mt (zlt (x := iZ ((L : Int) - 6)) (y := iZ i) rfl rfl ⟨by omega, by omega⟩ ⟨by omega, by omega⟩).mpr cg
      refine lv_aload_n hx hb dL_law_27 rfl (lv_at hl 3 rfl) ?_
      refine lv_iload_n hx hb dL_law_28 rfl (lv_at hl 0 rfl) ?_
      refine va_sld hx hb hX hbl hbA hS (zin (e := i) (n := L) ⟨by omega, by omega⟩ (by omega)) dL_law_29 ?_
      refine lv_bipush (v := 127) hx hb dL_law_30 (by decide) ?_
      refine lv_iand hx hb dL_law_32 ?_
      refine lv_topi (fun x ex => ?_)
      obtain ⟨j, hj, hx2⟩ := pk_andE (xs (iZ i).toNatClampNeg) (m := 127) 7 (by decide)
      obtain rfl : x = nI j := ex.trans hx2
      refine law_sw l C ⟨by omega, by omega⟩ ?_ a I Lg F G V r H locs ls hI hRT hP hD hS hl j hj
      intro a I Lg F G V r H locs ls hI hRT hP hD hS hl
      refine lv_iinc (v := iZ (i + 6)) (lv' := [(3, .int (iZ (i + 6))), (2, .ref (a 106)), (1, .ref (a 0)), (0, .ref b)]) hx hb dL_law_2846 hl (k := 0) rfl (iZ_add i 6) (by decide) rfl (fun ls hl => ?_)
      refine lv_goto (tgt := 18) hx hb dL_law_2849 (by decide) ?_
      exact ih (i + 6) (by omega) (by omega) (by omega) a I Lg F G V r H locs ls hI hRT hP hD hS hl
