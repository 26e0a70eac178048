set_option maxHeartbeats 4000000 in
set_option maxRecDepth 100000 in
theorem m_plain (l : Launch) (D : va_G) (k : Nat → ClassId) (fs : List Value) (hm : Nat) (Ma : Nat) (Af : Nat → Int32) (x : Int) (f0 : fs[0]? = some (.ref Ma)) (h9x : 0 ≤ x ∧ x ≤ 4450) : WD (σ := ((Nat → Int) × (Nat → Int64) × (Nat → Nat → Int32) × (Nat → Nat → Int64))) l yX12_plain cX12_plain 3 none 0 0 0 D k [.ref hm, .int (iZ x)] [(hm, .inr (12, fs)), (Ma, .inl (k 1, 5340, .inl Af))] (fun _ => none) (fun u => (∀ e : Int, 0 ≤ e → e < 890 → gz (u.2.2.1 0) (x + e) = if e = 5 then -1 else 0) ∧ ∀ j : Int, 0 ≤ j → (j < x ∨ x + 890 ≤ j) → gz (u.2.2.1 0) j = gz Af j) (fun u => [(hm, .inr (12, fs)), (Ma, .inl (k 1, 5340, .inl (u.2.2.1 0)))]) := by
  refine MW (by decide) (Nat.le_of_ble_eq_true rfl) (fun p e s m below meth c ls A hx hb hml hr hlocks hin hts hown hKK hP hD hS hA hl => ?_)
  have hK := hKK.1
  have hl : lv_has ls 3 [(0, .ref hm), (1, .int (iZ x))] := hl
  refine lv_iconst (v := iZ 0) hx hb dX12_plain_0 (by decide) ?_
  refine lv_istore_n (lv' := [(2, .int (iZ 0)), (0, .ref hm), (1, .int (iZ x))]) hx hb dX12_plain_1 rfl hl (by decide) rfl (fun ls hl => ?_)
  have HL2 : ∀ (fu : Nat) (v2_2 : Int) (Afq2 : Nat → Int32) (H : Heap) (locs : List Loc) (ls : Array Slot), ((889) + 2 - v2_2) < (fu : Int) → ((0 ≤ v2_2 ∧ v2_2 ≤ (889) + 1)) → (∀ e : Int, 0 ≤ e → e < v2_2 → gz Afq2 (x + e) = 0) → (∀ e : Int, 0 ≤ e → (e < x ∨ x + v2_2 ≤ e) → gz Afq2 e = gz Af e) → va_P D vwCl [(hm, .inr (12, fs)), (Ma, .inl (k 1, 5340, .inl Afq2))] H → va_D A [(hm, .inr (12, fs)), (Ma, .inl (k 1, 5340, .inl Afq2))] → va_S A s.heap H locs → lv_has ls 3 [(2, .int (iZ v2_2)), (0, .ref hm), (1, .int (iZ x))] → W p l e (rj 0 0 0) s m [.ref hm, .int (iZ x)].toArray below meth c H locs 0 0 (MQ below (QW (σ := ((Nat → Int) × (Nat → Int64) × (Nat → Nat → Int32) × (Nat → Nat → Int64))) (fun _ => none) (fun u => (∀ e : Int, 0 ≤ e → e < 890 → gz (u.2.2.1 0) (x + e) = if e = 5 then -1 else 0) ∧ ∀ j : Int, 0 ≤ j → (j < x ∨ x + 890 ≤ j) → gz (u.2.2.1 0) j = gz Af j) (fun u => [(hm, .inr (12, fs)), (Ma, .inl (k 1, 5340, .inl (u.2.2.1 0)))]) D A) [.ref hm, .int (iZ x)].toArray s 0 0 A) (F0 m 2 ls []) := by
    intro fu
    induction fu with
    | zero => intro v2_2 Afq2 H locs ls hμ2 hi2 hw1 hk1 hP hD hS hl; exact absurd hμ2 (by omega)
    | succ fu ih2 =>
      intro v2_2 Afq2 H locs ls hμ2 hi2 hw1 hk1 hP hD hS hl
      refine lv_iload_n hx hb dX12_plain_2 rfl (lv_at hl 0 rfl) ?_
      refine lv_sipush (v := iZ 890) hx hb dX12_plain_3 (by decide) ?_
      refine lv_icmp_ge (tgt := 24) hx hb dX12_plain_6 (by decide) (fun c_1 => ?_) (fun c_1 => ?_)
      ·
        have c_1 := (zle (x := iZ 890) (y := iZ v2_2) rfl rfl ⟨by omega, by omega⟩ ⟨by omega, by omega⟩).mp c_1
        refine lv_aload_n hx hb dX12_plain_24 rfl (lv_at hl 1 rfl) ?_
        refine va_get (D := D) (ci := 12) (v := .ref Ma) (C := RX12) (T := TX12) (N := 36) hx hb hts iX12 hown hK hP 0 rfl rfl 0 (by decide) (hts _ qf_X12_7) (fun _ h => h) f0 dX12_plain_25 ?_
        refine lv_iload_n hx hb dX12_plain_28 rfl (lv_at hl 2 rfl) ?_
        refine lv_iconst (v := iZ 5) hx hb dX12_plain_29 (by decide) ?_
        refine lv_iadd hx hb dX12_plain_30 ?_
        refine lv_topi (fun x_2 ex_2 => ?_)
        obtain rfl : x_2 = iZ (x + 5) := ex_2.trans (iZ_add x 5)
        refine lv_iconst (v := iZ (-1)) hx hb dX12_plain_31 (by decide) ?_
        refine va_iast hx hb hK hP hD hS 1 1 rfl rfl (zin (e := (x + 5)) (n := 5340) ⟨by omega, by omega⟩ (by decide)) dX12_plain_32 (fun H locs hP hD hS => ?_)
        obtain ⟨f_3, hf_3⟩ : ∃ gg9, gg9 = upd Afq2 (iZ (x + 5)).toNatClampNeg (iZ (-1)) := ⟨_, rfl⟩
        rw [← hf_3] at hP hD
        exact EWv hx hb hr hlocks hS (fun i => [0].getD i 0, fun i => [0].getD i 0, fun i => [f_3].getD i (fun _ => 0), fun i => [].getD i (fun _ => 0)) rfl (show (∀ e : Int, 0 ≤ e → e < 890 → gz f_3 (x + e) = if e = 5 then -1 else 0) ∧ ∀ j : Int, 0 ≤ j → (j < x ∨ x + 890 ≤ j) → gz f_3 j = gz Af j from ⟨fun e h1 h2 => by have c1 := gz_upc (j := x + e) hf_3 ⟨by omega, by omega⟩ ⟨by omega, by omega⟩ (by omega); have := hw1 e h1 (by omega); by_cases h5 : e = 5; rw [if_pos h5]; omega; rw [if_neg h5]; omega, fun j h1 h2 => by have c1 := gz_upc (j := j) hf_3 ⟨by omega, by omega⟩ ⟨by omega, by omega⟩ (by omega); have := hk1 j h1 (by omega); omega⟩) (hP.sub [0, 1] rfl) (hD.sub [0, 1] rfl rfl) dX12_plain_33
      ·
        have c_1 := mt (zle (x := iZ 890) (y := iZ v2_2) rfl rfl ⟨by omega, by omega⟩ ⟨by omega, by omega⟩).mpr c_1
        refine lv_aload_n hx hb dX12_plain_9 rfl (lv_at hl 1 rfl) ?_
        refine va_get (D := D) (ci := 12) (v := .ref Ma) (C := RX12) (T := TX12) (N := 36) hx hb hts iX12 hown hK hP 0 rfl rfl 0 (by decide) (hts _ qf_X12_7) (fun _ h => h) f0 dX12_plain_10 ?_
        refine lv_iload_n hx hb dX12_plain_13 rfl (lv_at hl 2 rfl) ?_
        refine lv_iload_n hx hb dX12_plain_14 rfl (lv_at hl 0 rfl) ?_
        refine lv_iadd hx hb dX12_plain_15 ?_
        refine lv_topi (fun x_4 ex_4 => ?_)
        obtain rfl : x_4 = iZ (x + v2_2) := ex_4.trans (iZ_add x v2_2)
        refine lv_iconst (v := iZ 0) hx hb dX12_plain_16 (by decide) ?_
        refine va_iast hx hb hK hP hD hS 1 1 rfl rfl (zin (e := (x + v2_2)) (n := 5340) ⟨by omega, by omega⟩ (by decide)) dX12_plain_17 (fun H locs hP hD hS => ?_)
        obtain ⟨f_5, hf_5⟩ : ∃ gg9, gg9 = upd Afq2 (iZ (x + v2_2)).toNatClampNeg (iZ 0) := ⟨_, rfl⟩
        rw [← hf_5] at hP hD
        refine lv_iinc (v := iZ (v2_2 + 1)) (lv' := [(2, .int (iZ (v2_2 + 1))), (0, .ref hm), (1, .int (iZ x))]) hx hb dX12_plain_18 hl (k := 0) rfl (iZ_add v2_2 1) (by decide) rfl (fun ls hl => ?_)
        refine lv_goto (tgt := 2) hx hb dX12_plain_21 (by decide) ?_
        exact ih2  (v2_2 + 1) f_5 _ _ _ (by omega) (show (0 ≤ (v2_2 + 1) ∧ (v2_2 + 1) ≤ (889) + 1) from ⟨by omega, by omega⟩) (show ∀ e : Int, 0 ≤ e → e < (v2_2 + 1) → gz f_5 (x + e) = 0 from (fun e h1 h2 => by have c1 := gz_upc (j := x + e) hf_5 ⟨by omega, by omega⟩ ⟨by omega, by omega⟩ (by omega); rcases Int.lt_or_eq_of_le (show e ≤ v2_2 by omega) with h3 | h3; have := hw1 e h1 h3; omega; omega)) (show ∀ e : Int, 0 ≤ e → (e < x ∨ x + (v2_2 + 1) ≤ e) → gz f_5 e = gz Af e from (fun e h1 h2 => by have c1 := gz_upc (j := e) hf_5 ⟨by omega, by omega⟩ ⟨by omega, by omega⟩ (by omega); have := hk1 e h1 (by omega); omega)) (hP.sub [0, 1] rfl) (hD.sub [0, 1] rfl rfl) hS (lv_sub hl [0, 1, 2] rfl)
  exact HL2 893 0 Af _ _ _ (by omega) (show (0 ≤ 0 ∧ 0 ≤ (889) + 1) from ⟨by omega, by omega⟩) (show ∀ e : Int, 0 ≤ e → e < 0 → gz Af (x + e) = 0 from (fun e h1 h2 => absurd h1 (by omega))) (show ∀ e : Int, 0 ≤ e → (e < x ∨ x + 0 ≤ e) → gz Af e = gz Af e from (fun e h1 h2 => rfl)) (hP.sub [0, 1] rfl) (hD.sub [0, 1] rfl rfl) hS (lv_sub hl [0, 1, 2] rfl)
set_option maxHeartbeats 4000000 in
set_option maxRecDepth 100000 in
theorem m_copies (l : Launch) (D : va_G) (k : Nat → ClassId) (fs : List Value) (hm : Nat) (Ma : Nat) (Mn : Nat) (Af : Nat → Int32) (Nf : Nat → Int64) (x : Int) (y : Int) (f0 : fs[0]? = some (.ref Ma)) (f1 : fs[1]? = some (.ref Mn)) (h9x : 0 ≤ x ∧ x ≤ 3) (h9y : 0 ≤ y ∧ y ≤ 3) (hne : ¬ x = y) : WD (σ := ((Nat → Int) × (Nat → Int64) × (Nat → Nat → Int32) × (Nat → Nat → Int64))) l yX12_copies cX12_copies 4 none 0 0 0 D k [.ref hm, .int (iZ x), .int (iZ y)] [(hm, .inr (12, fs)), (Ma, .inl (k 1, 5340, .inl Af)), (Mn, .inl (k 2, 36, .inr (.inl Nf)))] (fun _ => none) (fun u => (∀ e : Int, 0 ≤ e → e < 890 → gz (u.2.2.1 0) (890 * y + e) = gz Af (890 * x + e)) ∧ ∀ j : Int, 0 ≤ j → (j < 890 * y ∨ 890 * y + 890 ≤ j) → gz (u.2.2.1 0) j = gz Af j) (fun u => [(hm, .inr (12, fs)), (Ma, .inl (k 1, 5340, .inl (u.2.2.1 0))), (Mn, .inl (k 2, 36, .inr (.inl (u.2.2.2 0))))]) := by
  refine MW (by decide) (Nat.le_of_ble_eq_true rfl) (fun p e s m below meth c ls A hx hb hml hr hlocks hin hts hown hKK hP hD hS hA hl => ?_)
  have hK := hKK.1
  have hl : lv_has ls 4 [(0, .ref hm), (1, .int (iZ x)), (2, .int (iZ y))] := hl
  refine lv_iconst (v := iZ 0) hx hb dX12_copies_0 (by decide) ?_
  refine lv_istore_n (lv' := [(3, .int (iZ 0)), (0, .ref hm), (1, .int (iZ x)), (2, .int (iZ y))]) hx hb dX12_copies_1 rfl hl (by decide) rfl (fun ls hl => ?_)
  have HL2 : ∀ (fu : Nat) (v3_2 : Int) (Afq2 : Nat → Int32) (H : Heap) (locs : List Loc) (ls : Array Slot), ((889) + 2 - v3_2) < (fu : Int) → ((0 ≤ v3_2 ∧ v3_2 ≤ (889) + 1)) → (∀ e : Int, 0 ≤ e → e < v3_2 → gz Afq2 (890 * y + e) = gz Af (890 * x + e)) → (∀ e : Int, 0 ≤ e → (e < 890 * y ∨ 890 * y + v3_2 ≤ e) → gz Afq2 e = gz Af e) → va_P D vwCl [(hm, .inr (12, fs)), (Ma, .inl (k 1, 5340, .inl Afq2)), (Mn, .inl (k 2, 36, .inr (.inl Nf)))] H → va_D A [(hm, .inr (12, fs)), (Ma, .inl (k 1, 5340, .inl Afq2)), (Mn, .inl (k 2, 36, .inr (.inl Nf)))] → va_S A s.heap H locs → lv_has ls 4 [(3, .int (iZ v3_2)), (0, .ref hm), (1, .int (iZ x)), (2, .int (iZ y))] → W p l e (rj 0 0 0) s m [.ref hm, .int (iZ x), .int (iZ y)].toArray below meth c H locs 0 0 (MQ below (QW (σ := ((Nat → Int) × (Nat → Int64) × (Nat → Nat → Int32) × (Nat → Nat → Int64))) (fun _ => none) (fun u => (∀ e : Int, 0 ≤ e → e < 890 → gz (u.2.2.1 0) (890 * y + e) = gz Af (890 * x + e)) ∧ ∀ j : Int, 0 ≤ j → (j < 890 * y ∨ 890 * y + 890 ≤ j) → gz (u.2.2.1 0) j = gz Af j) (fun u => [(hm, .inr (12, fs)), (Ma, .inl (k 1, 5340, .inl (u.2.2.1 0))), (Mn, .inl (k 2, 36, .inr (.inl (u.2.2.2 0))))]) D A) [.ref hm, .int (iZ x), .int (iZ y)].toArray s 0 0 A) (F0 m 2 ls []) := by
    intro fu
    induction fu with
    | zero => intro v3_2 Afq2 H locs ls hμ2 hi2 hw1 hk1 hP hD hS hl; exact absurd hμ2 (by omega)
    | succ fu ih2 =>
      intro v3_2 Afq2 H locs ls hμ2 hi2 hw1 hk1 hP hD hS hl
      refine lv_iload_n hx hb dX12_copies_2 rfl (lv_at hl 0 rfl) ?_
      refine lv_sipush (v := iZ 890) hx hb dX12_copies_3 (by decide) ?_
      refine lv_icmp_ge (tgt := 39) hx hb dX12_copies_6 (by decide) (fun c_1 => ?_) (fun c_1 => ?_)
      ·
        have c_1 := (zle (x := iZ 890) (y := iZ v3_2) rfl rfl ⟨by omega, by omega⟩ ⟨by omega, by omega⟩).mp c_1
        refine lv_iconst (v := iZ 0) hx hb dX12_copies_39 (by decide) ?_
        refine lv_istore_n (lv' := [(3, .int (iZ 0)), (0, .ref hm), (1, .int (iZ x)), (2, .int (iZ y))]) hx hb dX12_copies_40 rfl hl (by decide) rfl (fun ls hl => ?_)
        have HL41 : ∀ (fu : Nat) (v3_41 : Int) (Nfq41 : Nat → Int64) (H : Heap) (locs : List Loc) (ls : Array Slot), ((5) + 2 - v3_41) < (fu : Int) → ((0 ≤ v3_41 ∧ v3_41 ≤ (5) + 1)) → va_P D vwCl [(hm, .inr (12, fs)), (Ma, .inl (k 1, 5340, .inl Afq2)), (Mn, .inl (k 2, 36, .inr (.inl Nfq41)))] H → va_D A [(hm, .inr (12, fs)), (Ma, .inl (k 1, 5340, .inl Afq2)), (Mn, .inl (k 2, 36, .inr (.inl Nfq41)))] → va_S A s.heap H locs → lv_has ls 4 [(3, .int (iZ v3_41)), (0, .ref hm), (1, .int (iZ x)), (2, .int (iZ y))] → W p l e (rj 0 0 0) s m [.ref hm, .int (iZ x), .int (iZ y)].toArray below meth c H locs 0 0 (MQ below (QW (σ := ((Nat → Int) × (Nat → Int64) × (Nat → Nat → Int32) × (Nat → Nat → Int64))) (fun _ => none) (fun u => (∀ e : Int, 0 ≤ e → e < 890 → gz (u.2.2.1 0) (890 * y + e) = gz Af (890 * x + e)) ∧ ∀ j : Int, 0 ≤ j → (j < 890 * y ∨ 890 * y + 890 ≤ j) → gz (u.2.2.1 0) j = gz Af j) (fun u => [(hm, .inr (12, fs)), (Ma, .inl (k 1, 5340, .inl (u.2.2.1 0))), (Mn, .inl (k 2, 36, .inr (.inl (u.2.2.2 0))))]) D A) [.ref hm, .int (iZ x), .int (iZ y)].toArray s 0 0 A) (F0 m 41 ls []) := by
          intro fu
          induction fu with
          | zero => intro v3_41 Nfq41 H locs ls hμ41 hi41 hP hD hS hl; exact absurd hμ41 (by omega)
          | succ fu ih41 =>
            intro v3_41 Nfq41 H locs ls hμ41 hi41 hP hD hS hl
            refine lv_iload_n hx hb dX12_copies_41 rfl (lv_at hl 0 rfl) ?_
            refine lv_bipush (v := iZ 6) hx hb dX12_copies_42 (by decide) ?_
            refine lv_icmp_ge (tgt := 75) hx hb dX12_copies_44 (by decide) (fun c_2 => ?_) (fun c_2 => ?_)
            ·
              have c_2 := (zle (x := iZ 6) (y := iZ v3_41) rfl rfl ⟨by omega, by omega⟩ ⟨by omega, by omega⟩).mp c_2
              exact EWv hx hb hr hlocks hS (fun i => [0].getD i 0, fun i => [0].getD i 0, fun i => [Afq2].getD i (fun _ => 0), fun i => [Nfq41].getD i (fun _ => 0)) rfl (show (∀ e : Int, 0 ≤ e → e < 890 → gz Afq2 (890 * y + e) = gz Af (890 * x + e)) ∧ ∀ j : Int, 0 ≤ j → (j < 890 * y ∨ 890 * y + 890 ≤ j) → gz Afq2 j = gz Af j from ⟨fun e h1 h2 => hw1 e h1 (by omega), fun j h1 h2 => hk1 j h1 (by omega)⟩) (hP.sub [0, 1, 2] rfl) (hD.sub [0, 1, 2] rfl rfl) dX12_copies_75
            ·
              have c_2 := mt (zle (x := iZ 6) (y := iZ v3_41) rfl rfl ⟨by omega, by omega⟩ ⟨by omega, by omega⟩).mpr c_2
              refine lv_aload_n hx hb dX12_copies_47 rfl (lv_at hl 1 rfl) ?_
              refine va_get (D := D) (ci := 12) (v := .ref Mn) (C := RX12) (T := TX12) (N := 36) hx hb hts iX12 hown hK hP 0 rfl rfl 1 (by decide) (hts _ qf_X12_13) (fun _ h => h) f1 dX12_copies_48 ?_
              refine lv_bipush (v := iZ 6) hx hb dX12_copies_51 (by decide) ?_
              refine lv_iload_n hx hb dX12_copies_53 rfl (lv_at hl 3 rfl) ?_
              refine lv_imul hx hb dX12_copies_54 ?_
              refine lv_topi (fun x_3 ex_3 => ?_)
              obtain rfl : x_3 = iZ (6 * y) := ex_3.trans (iZ_mul 6 y)
              refine lv_iload_n hx hb dX12_copies_55 rfl (lv_at hl 0 rfl) ?_
              refine lv_iadd hx hb dX12_copies_56 ?_
              refine lv_topi (fun x_4 ex_4 => ?_)
              obtain rfl : x_4 = iZ ((6 * y) + v3_41) := ex_4.trans (iZ_add (6 * y) v3_41)
              refine lv_aload_n hx hb dX12_copies_57 rfl (lv_at hl 1 rfl) ?_
              refine va_get (D := D) (ci := 12) (v := .ref Mn) (C := RX12) (T := TX12) (N := 36) hx hb hts iX12 hown hK hP 0 rfl rfl 1 (by decide) (hts _ qf_X12_13) (fun _ h => h) f1 dX12_copies_58 ?_
              refine lv_bipush (v := iZ 6) hx hb dX12_copies_61 (by decide) ?_
              refine lv_iload_n hx hb dX12_copies_63 rfl (lv_at hl 2 rfl) ?_
              refine lv_imul hx hb dX12_copies_64 ?_
              refine lv_topi (fun x_5 ex_5 => ?_)
              obtain rfl : x_5 = iZ (6 * x) := ex_5.trans (iZ_mul 6 x)
              refine lv_iload_n hx hb dX12_copies_65 rfl (lv_at hl 0 rfl) ?_
              refine lv_iadd hx hb dX12_copies_66 ?_
              refine lv_topi (fun x_6 ex_6 => ?_)
              obtain rfl : x_6 = iZ ((6 * x) + v3_41) := ex_6.trans (iZ_add (6 * x) v3_41)
              refine va_lald hx hb hK hP 2 2 rfl rfl (zin (e := ((6 * x) + v3_41)) (n := 36) ⟨by omega, by omega⟩ (by decide)) dX12_copies_67 ?_
              refine lv_topl (fun y_7 ey_7 => ?_)
              refine va_last hx hb hK hP hD hS 2 2 rfl rfl (zin (e := ((6 * y) + v3_41)) (n := 36) ⟨by omega, by omega⟩ (by decide)) dX12_copies_68 (fun H locs hP hD hS => ?_)
              obtain ⟨f_8, hf_8⟩ : ∃ gg9, gg9 = vp_updL Nfq41 (iZ ((6 * y) + v3_41)).toNatClampNeg y_7 := ⟨_, rfl⟩
              rw [← hf_8] at hP hD
              refine lv_iinc (v := iZ (v3_41 + 1)) (lv' := [(3, .int (iZ (v3_41 + 1))), (0, .ref hm), (1, .int (iZ x)), (2, .int (iZ y))]) hx hb dX12_copies_69 hl (k := 0) rfl (iZ_add v3_41 1) (by decide) rfl (fun ls hl => ?_)
              refine lv_goto (tgt := 41) hx hb dX12_copies_72 (by decide) ?_
              exact ih41  (v3_41 + 1) f_8 _ _ _ (by omega) (show (0 ≤ (v3_41 + 1) ∧ (v3_41 + 1) ≤ (5) + 1) from ⟨by omega, by omega⟩) (hP.sub [0, 1, 2] rfl) (hD.sub [0, 1, 2] rfl rfl) hS (lv_sub hl [0, 1, 2, 3] rfl)
        exact HL41 9 0 Nf _ _ _ (by omega) (show (0 ≤ 0 ∧ 0 ≤ (5) + 1) from ⟨by omega, by omega⟩) (hP.sub [0, 1, 2] rfl) (hD.sub [0, 1, 2] rfl rfl) hS (lv_sub hl [0, 1, 2, 3] rfl)
      ·
        have c_1 := mt (zle (x := iZ 890) (y := iZ v3_2) rfl rfl ⟨by omega, by omega⟩ ⟨by omega, by omega⟩).mpr c_1
        refine lv_aload_n hx hb dX12_copies_9 rfl (lv_at hl 1 rfl) ?_
        refine va_get (D := D) (ci := 12) (v := .ref Ma) (C := RX12) (T := TX12) (N := 36) hx hb hts iX12 hown hK hP 0 rfl rfl 0 (by decide) (hts _ qf_X12_7) (fun _ h => h) f0 dX12_copies_10 ?_
        refine lv_sipush (v := iZ 890) hx hb dX12_copies_13 (by decide) ?_
        refine lv_iload_n hx hb dX12_copies_16 rfl (lv_at hl 3 rfl) ?_
        refine lv_imul hx hb dX12_copies_17 ?_
        refine lv_topi (fun x_9 ex_9 => ?_)
        obtain rfl : x_9 = iZ (890 * y) := ex_9.trans (iZ_mul 890 y)
        refine lv_iload_n hx hb dX12_copies_18 rfl (lv_at hl 0 rfl) ?_
        refine lv_iadd hx hb dX12_copies_19 ?_
        refine lv_topi (fun x_10 ex_10 => ?_)
        obtain rfl : x_10 = iZ ((890 * y) + v3_2) := ex_10.trans (iZ_add (890 * y) v3_2)
        refine lv_aload_n hx hb dX12_copies_20 rfl (lv_at hl 1 rfl) ?_
        refine va_get (D := D) (ci := 12) (v := .ref Ma) (C := RX12) (T := TX12) (N := 36) hx hb hts iX12 hown hK hP 0 rfl rfl 0 (by decide) (hts _ qf_X12_7) (fun _ h => h) f0 dX12_copies_21 ?_
        refine lv_sipush (v := iZ 890) hx hb dX12_copies_24 (by decide) ?_
        refine lv_iload_n hx hb dX12_copies_27 rfl (lv_at hl 2 rfl) ?_
        refine lv_imul hx hb dX12_copies_28 ?_
        refine lv_topi (fun x_11 ex_11 => ?_)
        obtain rfl : x_11 = iZ (890 * x) := ex_11.trans (iZ_mul 890 x)
        refine lv_iload_n hx hb dX12_copies_29 rfl (lv_at hl 0 rfl) ?_
        refine lv_iadd hx hb dX12_copies_30 ?_
        refine lv_topi (fun x_12 ex_12 => ?_)
        obtain rfl : x_12 = iZ ((890 * x) + v3_2) := ex_12.trans (iZ_add (890 * x) v3_2)
        refine va_iald hx hb hK hP 1 1 rfl rfl (zin (e := ((890 * x) + v3_2)) (n := 5340) ⟨by omega, by omega⟩ (by decide)) dX12_copies_31 ?_
        refine lv_topi (fun x_13 ex_13 => ?_)
        obtain rfl : x_13 = iZ (gz Afq2 ((890 * x) + v3_2)) := ex_13.trans (gz_eq ⟨by omega, by omega⟩)
        have h_14 := gz_rg Afq2 ((890 * x) + v3_2)
        refine va_iast hx hb hK hP hD hS 1 1 rfl rfl (zin (e := ((890 * y) + v3_2)) (n := 5340) ⟨by omega, by omega⟩ (by decide)) dX12_copies_32 (fun H locs hP hD hS => ?_)
        obtain ⟨f_15, hf_15⟩ : ∃ gg9, gg9 = upd Afq2 (iZ ((890 * y) + v3_2)).toNatClampNeg (iZ (gz Afq2 ((890 * x) + v3_2))) := ⟨_, rfl⟩
        rw [← hf_15] at hP hD
        refine lv_iinc (v := iZ (v3_2 + 1)) (lv' := [(3, .int (iZ (v3_2 + 1))), (0, .ref hm), (1, .int (iZ x)), (2, .int (iZ y))]) hx hb dX12_copies_33 hl (k := 0) rfl (iZ_add v3_2 1) (by decide) rfl (fun ls hl => ?_)
        refine lv_goto (tgt := 2) hx hb dX12_copies_36 (by decide) ?_
        exact ih2  (v3_2 + 1) f_15 _ _ _ (by omega) (show (0 ≤ (v3_2 + 1) ∧ (v3_2 + 1) ≤ (889) + 1) from ⟨by omega, by omega⟩) (show ∀ e : Int, 0 ≤ e → e < (v3_2 + 1) → gz f_15 (890 * y + e) = gz Af (890 * x + e) from (fun e h1 h2 => by have c1 := gz_upc (j := 890 * y + e) hf_15 ⟨by omega, by omega⟩ ⟨by omega, by omega⟩ (by omega); rcases Int.lt_or_eq_of_le (show e ≤ v3_2 by omega) with h3 | h3; have := hw1 e h1 h3; omega; rw [h3] at c1 ⊢; have c2 := hk1 (890 * x + v3_2) (by omega) (by omega); omega)) (show ∀ e : Int, 0 ≤ e → (e < 890 * y ∨ 890 * y + (v3_2 + 1) ≤ e) → gz f_15 e = gz Af e from (fun e h1 h2 => by have c1 := gz_upc (j := e) hf_15 ⟨by omega, by omega⟩ ⟨by omega, by omega⟩ (by omega); have := hk1 e h1 (by omega); omega)) (hP.sub [0, 1, 2] rfl) (hD.sub [0, 1, 2] rfl rfl) hS (lv_sub hl [0, 1, 2, 3] rfl)
  exact HL2 893 0 Af _ _ _ (by omega) (show (0 ≤ 0 ∧ 0 ≤ (889) + 1) from ⟨by omega, by omega⟩) (show ∀ e : Int, 0 ≤ e → e < 0 → gz Af (890 * y + e) = gz Af (890 * x + e) from (fun e h1 h2 => absurd h1 (by omega))) (show ∀ e : Int, 0 ≤ e → (e < 890 * y ∨ 890 * y + 0 ≤ e) → gz Af e = gz Af e from (fun e h1 h2 => rfl)) (hP.sub [0, 1, 2] rfl) (hD.sub [0, 1, 2] rfl rfl) hS (lv_sub hl [0, 1, 2, 3] rfl)
theorem gz_shl {f : Nat → Int32} {c e : Int} (hc : 0 ≤ c) (he : 0 ≤ e) : gz (sh f c) e = gz f (c + e) := gz_sh hc he
/-- what is kept of the marks -/
def MK (f : Nat → Int32) (n : Int) : Prop := ∀ m : Int, 1 ≤ m → m ≤ n → M0 (sh f (890 * m))
theorem MK.keep {f g : Nat → Int32} {n : Int} (hn : n ≤ 3) (h : MK f n) (hg : ∀ e : Int, 890 ≤ e → e < 3560 → gz g e = gz f e) : MK g n := fun m h1 h2 =>
  M0.like (fun e a _ c => by rw [gz_sh (by omega) a, gz_sh (by omega) a]; exact hg _ (by omega) (by omega)) (h m h1 h2)
theorem MK.mark {f g : Nat → Int32} {n : Int} (hn : 0 ≤ n ∧ n < 3) (hf : M0 f) (h : MK f n) (h1 : ∀ e : Int, 0 ≤ e → e < 890 → gz g (890 * (n + 1) + e) = gz f (890 * 0 + e)) (h2 : ∀ j : Int, 0 ≤ j → (j < 890 * (n + 1) ∨ 890 * (n + 1) + 890 ≤ j) → gz g j = gz f j) : MK g (n + 1) ∧ M0 g := by
  refine ⟨fun m a b => ?_, M0.like (fun e a b c => h2 e a (by omega)) hf⟩
  rcases Int.lt_or_eq_of_le b with q | q
  · exact M0.like (fun e a2 _ c => by rw [gz_sh (by omega) a2, gz_sh (by omega) a2]; exact h2 _ (by omega) (by omega)) (h m a (by omega))
  · exact M0.like (fun e a2 _ c => by rw [q, gz_sh (by omega) a2, h1 e a2 (by omega)]; congr 1; omega) hf
theorem MK.back {f g : Nat → Int32} {n : Int} (hn : 1 ≤ n ∧ n ≤ 3) (h : MK f n) (h1 : ∀ e : Int, 0 ≤ e → e < 890 → gz g (890 * 0 + e) = gz f (890 * n + e)) (h2 : ∀ j : Int, 0 ≤ j → (j < 890 * 0 ∨ 890 * 0 + 890 ≤ j) → gz g j = gz f j) : MK g (n - 1) ∧ M0 g := by
  refine ⟨fun m a b => M0.like (fun e a2 _ c => by rw [gz_sh (by omega) a2, gz_sh (by omega) a2]; exact h2 _ (by omega) (by omega)) (h m a (by omega)), M0.like (fun e a2 _ c => ?_) (h n hn.1 (Int.le_refl n))⟩
  have := h1 e a2 (by omega)
  rw [show 890 * 0 + e = e by omega] at this
  rw [this, gz_sh (by omega) a2]
set_option maxHeartbeats 4000000 in
set_option maxRecDepth 100000 in
theorem q_mark (l : Launch) (D : va_G) (k : Nat → ClassId) (hm : Nat) (Ma : Nat) (Mn : Nat) (Ms : Nat) (My : Nat) (Mt : Nat) (Mp : Nat) (Mx : Nat) (Mo : Nat) (Mk : Nat) (Ml : Nat) (Mb : Nat) (Mh : Nat) (Mc : Nat) (Mz : Nat) (Mr : Nat) (Mq : Nat) (Mst : Int) (Mtd : Int) (Msz : Int) (Mtk : Int) (Mfr : Int) (Men : Int) (Mva : Int) (Mfk : Int) (Mfp : Int) (Mfs : Int) (Mse : Int) (Mlt : Int) (Mdp : Int) (Mct : Int) (Mdr : Int) (Mrs : Int) (Mit : Int) (Mmk : Int) (Mtp : Int64) (Mbt : Int64) (Af : Nat → Int32) (Nf : Nat → Int64) (hM : M0 Af) (hmk : 0 ≤ Mmk ∧ Mmk ≤ 3) (hMK : MK Af Mmk) : WD (σ := ((Nat → Int) × (Nat → Int64) × (Nat → Nat → Int32) × (Nat → Nat → Int64))) l yX12_mark cX12_mark 1 (some .int) 1 0 0 D k [.ref hm] [(hm, .inr (12, [.ref Ma, .ref Mn, .int (iZ Mst), .long Mtp, .long Mbt, .ref Ms, .ref My, .ref Mt, .ref Mp, .ref Mx, .int (iZ Mtd), .int (iZ Msz), .int (iZ Mtk), .int (iZ Mfr), .int (iZ Men), .int (iZ Mva), .int (iZ Mfk), .int (iZ Mfp), .int (iZ Mfs), .int (iZ Mse), .int (iZ Mlt), .ref Mo, .int (iZ Mdp), .int (iZ Mct), .ref Mk, .ref Ml, .ref Mb, .ref Mh, .ref Mc, .int (iZ Mdr), .int (iZ Mrs), .ref Mz, .ref Mr, .ref Mq, .int (iZ Mit), .int (iZ Mmk)])), (Ma, .inl (k 1, 5340, .inl Af)), (Mn, .inl (k 2, 36, .inr (.inl Nf)))] (fun u => some (.int (iZ (u.1 0)))) (fun u => (0 ≤ (u.1 2) ∧ (u.1 2) ≤ 3) ∧ (MK (u.2.2.1 0) (u.1 2) ∧ M0 (u.2.2.1 0)) ∧ ((Mmk = 3 ∧ (u.1 0) = -1 ∧ (u.1 2) = 3) ∨ (Mmk < 3 ∧ (u.1 0) = Mmk + 1 ∧ (u.1 2) = Mmk + 1))) (fun u => [(hm, .inr (12, [.ref Ma, .ref Mn, .int (iZ (u.1 1)), .long Mtp, .long Mbt, .ref Ms, .ref My, .ref Mt, .ref Mp, .ref Mx, .int (iZ Mtd), .int (iZ Msz), .int (iZ Mtk), .int (iZ Mfr), .int (iZ Men), .int (iZ Mva), .int (iZ Mfk), .int (iZ Mfp), .int (iZ Mfs), .int (iZ Mse), .int (iZ Mlt), .ref Mo, .int (iZ Mdp), .int (iZ Mct), .ref Mk, .ref Ml, .ref Mb, .ref Mh, .ref Mc, .int (iZ Mdr), .int (iZ Mrs), .ref Mz, .ref Mr, .ref Mq, .int (iZ Mit), .int (iZ (u.1 2))])), (Ma, .inl (k 1, 5340, .inl (u.2.2.1 0))), (Mn, .inl (k 2, 36, .inr (.inl (u.2.2.2 0))))]) := by
  refine MW (by decide) (Nat.le_of_ble_eq_true rfl) (fun p e s m below meth c ls A hx hb hml hr hlocks hin hts hown hKK hP hD hS hA hl => ?_)
  have hK := hKK.1
  have hl : lv_has ls 1 [(0, .ref hm)] := hl
  obtain ⟨m0, m1, m3, m4, m5, mF, mO, mS⟩ := id hM
  refine lv_aload_n hx hb dX12_mark_0 rfl (lv_at hl 0 rfl) ?_
  refine va_get (D := D) (ci := 12) (v := .int (iZ Mmk)) (C := RX12) (T := TX12) (N := 36) hx hb hts iX12 hown hK hP 0 rfl rfl 35 (by decide) (hts _ qf_X12_412) (fun _ h => h) rfl dX12_mark_1 ?_
  refine lv_iconst (v := iZ 3) hx hb dX12_mark_4 (by decide) ?_
  refine lv_icmp_ne (tgt := 14) hx hb dX12_mark_5 (by decide) (fun c_1 => ?_) (fun c_1 => ?_)
  ·
    have c_1 := mt (zeq (x := iZ Mmk) (y := iZ 3) rfl rfl ⟨by omega, by omega⟩ ⟨by omega, by omega⟩).mpr c_1
    refine lv_aload_n hx hb dX12_mark_14 rfl (lv_at hl 0 rfl) ?_
    refine lv_dup hx hb dX12_mark_15 rfl ?_
    refine va_get (D := D) (ci := 12) (v := .int (iZ Mmk)) (C := RX12) (T := TX12) (N := 36) hx hb hts iX12 hown hK hP 0 rfl rfl 35 (by decide) (hts _ qf_X12_412) (fun _ h => h) rfl dX12_mark_16 ?_
    refine lv_iconst (v := iZ 1) hx hb dX12_mark_19 (by decide) ?_
    refine lv_iadd hx hb dX12_mark_20 ?_
    refine lv_topi (fun x_2 ex_2 => ?_)
    obtain rfl : x_2 = iZ (Mmk + 1) := ex_2.trans (iZ_add Mmk 1)
    refine va_put (D := D) (ci := 12) (v := .int (iZ (Mmk + 1))) (ty := .int) (C := RX12) (T := TX12) (N := 36) hx hb hts iX12 tyX12 tyX12_ok nmX12 hown hK hP hD hS 0 rfl rfl 35 (by decide) (hts _ qf_X12_412) (fun _ h => h) rfl (by decide +kernel) rfl rfl (Nat.le_of_ble_eq_true rfl) dX12_mark_21 (fun H locs hP hD hS => ?_)
    refine lv_aload_n hx hb dX12_mark_24 rfl (lv_at hl 0 rfl) ?_
    refine lv_iconst (v := iZ 0) hx hb dX12_mark_25 (by decide) ?_
    refine lv_aload_n hx hb dX12_mark_26 rfl (lv_at hl 0 rfl) ?_
    refine va_get (D := D) (ci := 12) (v := .int (iZ (Mmk + 1))) (C := RX12) (T := TX12) (N := 36) hx hb hts iX12 hown hK hP 0 rfl rfl 35 (by decide) (hts _ qf_X12_412) (fun _ h => h) rfl dX12_mark_27 ?_
    refine CWV (As := [.int (iZ 0), .int (iZ (Mmk + 1))]) (rest := []) (wc := [(hm, .inr (12, [.ref Ma, .ref Mn, .int (iZ Mst), .long Mtp, .long Mbt, .ref Ms, .ref My, .ref Mt, .ref Mp, .ref Mx, .int (iZ Mtd), .int (iZ Msz), .int (iZ Mtk), .int (iZ Mfr), .int (iZ Men), .int (iZ Mva), .int (iZ Mfk), .int (iZ Mfp), .int (iZ Mfs), .int (iZ Mse), .int (iZ Mlt), .ref Mo, .int (iZ Mdp), .int (iZ Mct), .ref Mk, .ref Ml, .ref Mb, .ref Mh, .ref Mc, .int (iZ Mdr), .int (iZ Mrs), .ref Mz, .ref Mr, .ref Mq, .int (iZ Mit), .int (iZ (Mmk + 1))])), (Ma, .inl (k 1, 5340, .inl Af)), (Mn, .inl (k 2, 36, .inr (.inl Nf)))]) (wr := []) hx hb hml hown hts hKK hP hD hS hA (m_copies l D k ([.ref Ma, .ref Mn, .int (iZ Mst), .long Mtp, .long Mbt, .ref Ms, .ref My, .ref Mt, .ref Mp, .ref Mx, .int (iZ Mtd), .int (iZ Msz), .int (iZ Mtk), .int (iZ Mfr), .int (iZ Men), .int (iZ Mva), .int (iZ Mfk), .int (iZ Mfp), .int (iZ Mfs), .int (iZ Mse), .int (iZ Mlt), .ref Mo, .int (iZ Mdp), .int (iZ Mct), .ref Mk, .ref Ml, .ref Mb, .ref Mh, .ref Mc, .int (iZ Mdr), .int (iZ Mrs), .ref Mz, .ref Mr, .ref Mq, .int (iZ Mit), .int (iZ (Mmk + 1))]) hm Ma Mn Af Nf 0 (Mmk + 1) rfl rfl ⟨by omega, by omega⟩ ⟨by omega, by omega⟩ (by omega)) ci_X12_copies qm_X12_415 ⟨Nat.le_of_ble_eq_true rfl, Nat.le_of_ble_eq_true rfl⟩ ⟨Nat.le_of_ble_eq_true rfl, Nat.le_of_ble_eq_true rfl⟩ [0, 1, 2] [] rfl rfl rfl rfl rfl (by decide) 0 rfl rfl rfl hl.1 rfl (Nat.le_of_ble_eq_true rfl) dX12_mark_30 (fun u_3 H locs hφ hP hD hS => ?_)
    obtain ⟨I_4, L_5, F_6, G_7⟩ := u_3
    have p_9 : (∀ e : Int, 0 ≤ e → e < 890 → gz (F_6 0) (890 * (Mmk + 1) + e) = gz Af (890 * 0 + e)) ∧ ∀ j : Int, 0 ≤ j → (j < 890 * (Mmk + 1) ∨ 890 * (Mmk + 1) + 890 ≤ j) → gz (F_6 0) j = gz Af j := hφ
    refine W.eq (g2 := F0 m 33 ls []) rfl ?_
    refine lv_aload_n hx hb dX12_mark_33 rfl (lv_at hl 0 rfl) ?_
    refine lv_aload_n hx hb dX12_mark_34 rfl (lv_at hl 0 rfl) ?_
    refine va_get (D := D) (ci := 12) (v := .int (iZ (Mmk + 1))) (C := RX12) (T := TX12) (N := 36) hx hb hts iX12 hown hK hP 0 rfl rfl 35 (by decide) (hts _ qf_X12_412) (fun _ h => h) rfl dX12_mark_35 ?_
    refine CWV (As := [.int (iZ (Mmk + 1))]) (rest := []) (wc := [(hm, .inr (12, [.ref Ma, .ref Mn, .int (iZ Mst), .long Mtp, .long Mbt, .ref Ms, .ref My, .ref Mt, .ref Mp, .ref Mx, .int (iZ Mtd), .int (iZ Msz), .int (iZ Mtk), .int (iZ Mfr), .int (iZ Men), .int (iZ Mva), .int (iZ Mfk), .int (iZ Mfp), .int (iZ Mfs), .int (iZ Mse), .int (iZ Mlt), .ref Mo, .int (iZ Mdp), .int (iZ Mct), .ref Mk, .ref Ml, .ref Mb, .ref Mh, .ref Mc, .int (iZ Mdr), .int (iZ Mrs), .ref Mz, .ref Mr, .ref Mq, .int (iZ Mit), .int (iZ (Mmk + 1))]))]) (wr := [(Ma, .inl (k 1, 5340, .inl (F_6 0))), (Mn, .inl (k 2, 36, .inr (.inl (G_7 0))))]) hx hb hml hown hts hKK hP hD hS hA (m_gives l D k hm Ma Mn Ms My Mt Mp Mx Mo Mk Ml Mb Mh Mc Mz Mr Mq Mst Mtd Msz Mtk Mfr Men Mva Mfk Mfp Mfs Mse Mlt Mdp Mct Mdr Mrs Mit (Mmk + 1) Mtp Mbt (Mmk + 1)) ci_X12_gives qm_X12_85 ⟨Nat.le_of_ble_eq_true rfl, Nat.le_of_ble_eq_true rfl⟩ ⟨Nat.le_of_ble_eq_true rfl, Nat.le_of_ble_eq_true rfl⟩ [0] [1, 2] rfl rfl rfl rfl rfl (by decide) 0 rfl rfl rfl hl.1 rfl (Nat.le_of_ble_eq_true rfl) dX12_mark_38 (fun u_10 H locs hφ hP hD hS => ?_)
    obtain ⟨I_11, L_12, F_13, G_14⟩ := u_10
    refine W.eq (g2 := F0 m 41 ls [.int (iZ (Mmk + 1))]) rfl ?_
    exact EWi hx hb hr hlocks hS (fun i => [(Mmk + 1), 0, (Mmk + 1)].getD i 0, fun i => [0].getD i 0, fun i => [(F_6 0)].getD i (fun _ => 0), fun i => [(G_7 0)].getD i (fun _ => 0)) rfl ⟨(show 0 ≤ (Mmk + 1) ∧ (Mmk + 1) ≤ 3 from (by omega)), (show MK (F_6 0) (Mmk + 1) ∧ M0 (F_6 0) from (MK.mark (n := Mmk) ⟨by omega, by omega⟩ hM hMK p_9.1 p_9.2)), (show (Mmk = 3 ∧ (Mmk + 1) = -1 ∧ (Mmk + 1) = 3) ∨ (Mmk < 3 ∧ (Mmk + 1) = Mmk + 1 ∧ (Mmk + 1) = Mmk + 1) from (by omega))⟩ (hP.sub [2, 0, 1] rfl) (hD.sub [2, 0, 1] rfl rfl) dX12_mark_41
  ·
    have c_1 := (zeq (x := iZ Mmk) (y := iZ 3) rfl rfl ⟨by omega, by omega⟩ ⟨by omega, by omega⟩).mp c_1
    refine lv_aload_n hx hb dX12_mark_8 rfl (lv_at hl 0 rfl) ?_
    refine lv_iconst (v := iZ 4) hx hb dX12_mark_9 (by decide) ?_
    refine CWV (As := [.int (iZ 4)]) (rest := []) (wc := [(hm, .inr (12, [.ref Ma, .ref Mn, .int (iZ Mst), .long Mtp, .long Mbt, .ref Ms, .ref My, .ref Mt, .ref Mp, .ref Mx, .int (iZ Mtd), .int (iZ Msz), .int (iZ Mtk), .int (iZ Mfr), .int (iZ Men), .int (iZ Mva), .int (iZ Mfk), .int (iZ Mfp), .int (iZ Mfs), .int (iZ Mse), .int (iZ Mlt), .ref Mo, .int (iZ Mdp), .int (iZ Mct), .ref Mk, .ref Ml, .ref Mb, .ref Mh, .ref Mc, .int (iZ Mdr), .int (iZ Mrs), .ref Mz, .ref Mr, .ref Mq, .int (iZ Mit), .int (iZ Mmk)]))]) (wr := [(Ma, .inl (k 1, 5340, .inl Af)), (Mn, .inl (k 2, 36, .inr (.inl Nf)))]) hx hb hml hown hts hKK hP hD hS hA (m_refuse l D k hm Ma Mn Ms My Mt Mp Mx Mo Mk Ml Mb Mh Mc Mz Mr Mq Mst Mtd Msz Mtk Mfr Men Mva Mfk Mfp Mfs Mse Mlt Mdp Mct Mdr Mrs Mit Mmk Mtp Mbt 4) ci_X12_refuse qm_X12_81 ⟨Nat.le_of_ble_eq_true rfl, Nat.le_of_ble_eq_true rfl⟩ ⟨Nat.le_of_ble_eq_true rfl, Nat.le_of_ble_eq_true rfl⟩ [0] [1, 2] rfl rfl rfl rfl rfl (by decide) 0 rfl rfl rfl hl.1 rfl (Nat.le_of_ble_eq_true rfl) dX12_mark_10 (fun u_16 H locs hφ hP hD hS => ?_)
    obtain ⟨I_17, L_18, F_19, G_20⟩ := u_16
    refine W.eq (g2 := F0 m 13 ls [.int (iZ (-1))]) rfl ?_
    exact EWi hx hb hr hlocks hS (fun i => [(-1), 4, Mmk].getD i 0, fun i => [0].getD i 0, fun i => [Af].getD i (fun _ => 0), fun i => [Nf].getD i (fun _ => 0)) rfl ⟨(show 0 ≤ Mmk ∧ Mmk ≤ 3 from (by omega)), (show MK Af Mmk ∧ M0 Af from ⟨hMK, hM⟩), (show (Mmk = 3 ∧ (-1) = -1 ∧ Mmk = 3) ∨ (Mmk < 3 ∧ (-1) = Mmk + 1 ∧ Mmk = Mmk + 1) from (by omega))⟩ (hP.sub [2, 0, 1] rfl) (hD.sub [2, 0, 1] rfl rfl) dX12_mark_13
set_option maxHeartbeats 4000000 in
set_option maxRecDepth 100000 in
theorem q_back (l : Launch) (D : va_G) (k : Nat → ClassId) (hm : Nat) (Ma : Nat) (Mn : Nat) (Ms : Nat) (My : Nat) (Mt : Nat) (Mp : Nat) (Mx : Nat) (Mo : Nat) (Mk : Nat) (Ml : Nat) (Mb : Nat) (Mh : Nat) (Mc : Nat) (Mz : Nat) (Mr : Nat) (Mq : Nat) (Mst : Int) (Mtd : Int) (Msz : Int) (Mtk : Int) (Mfr : Int) (Men : Int) (Mva : Int) (Mfk : Int) (Mfp : Int) (Mfs : Int) (Mse : Int) (Mlt : Int) (Mdp : Int) (Mct : Int) (Mdr : Int) (Mrs : Int) (Mit : Int) (Mmk : Int) (Mtp : Int64) (Mbt : Int64) (Af : Nat → Int32) (Nf : Nat → Int64) (hM : M0 Af) (hmk : 0 ≤ Mmk ∧ Mmk ≤ 3) (hMK : MK Af Mmk) : WD (σ := ((Nat → Int) × (Nat → Int64) × (Nat → Nat → Int32) × (Nat → Nat → Int64))) l yX12_back cX12_back 1 (some .int) 1 0 0 D k [.ref hm] [(hm, .inr (12, [.ref Ma, .ref Mn, .int (iZ Mst), .long Mtp, .long Mbt, .ref Ms, .ref My, .ref Mt, .ref Mp, .ref Mx, .int (iZ Mtd), .int (iZ Msz), .int (iZ Mtk), .int (iZ Mfr), .int (iZ Men), .int (iZ Mva), .int (iZ Mfk), .int (iZ Mfp), .int (iZ Mfs), .int (iZ Mse), .int (iZ Mlt), .ref Mo, .int (iZ Mdp), .int (iZ Mct), .ref Mk, .ref Ml, .ref Mb, .ref Mh, .ref Mc, .int (iZ Mdr), .int (iZ Mrs), .ref Mz, .ref Mr, .ref Mq, .int (iZ Mit), .int (iZ Mmk)])), (Ma, .inl (k 1, 5340, .inl Af)), (Mn, .inl (k 2, 36, .inr (.inl Nf)))] (fun u => some (.int (iZ (u.1 0)))) (fun u => (0 ≤ (u.1 2) ∧ (u.1 2) ≤ 3) ∧ (MK (u.2.2.1 0) (u.1 2) ∧ M0 (u.2.2.1 0)) ∧ ((Mmk = 0 ∧ (u.1 0) = -1 ∧ (u.1 2) = 0) ∨ (0 < Mmk ∧ (u.1 0) = Mmk - 1 ∧ (u.1 2) = Mmk - 1))) (fun u => [(hm, .inr (12, [.ref Ma, .ref Mn, .int (iZ (u.1 1)), .long Mtp, .long Mbt, .ref Ms, .ref My, .ref Mt, .ref Mp, .ref Mx, .int (iZ Mtd), .int (iZ Msz), .int (iZ Mtk), .int (iZ Mfr), .int (iZ Men), .int (iZ Mva), .int (iZ Mfk), .int (iZ Mfp), .int (iZ Mfs), .int (iZ Mse), .int (iZ Mlt), .ref Mo, .int (iZ Mdp), .int (iZ Mct), .ref Mk, .ref Ml, .ref Mb, .ref Mh, .ref Mc, .int (iZ Mdr), .int (iZ Mrs), .ref Mz, .ref Mr, .ref Mq, .int (iZ Mit), .int (iZ (u.1 2))])), (Ma, .inl (k 1, 5340, .inl (u.2.2.1 0))), (Mn, .inl (k 2, 36, .inr (.inl (u.2.2.2 0))))]) := by
  refine MW (by decide) (Nat.le_of_ble_eq_true rfl) (fun p e s m below meth c ls A hx hb hml hr hlocks hin hts hown hKK hP hD hS hA hl => ?_)
  have hK := hKK.1
  have hl : lv_has ls 1 [(0, .ref hm)] := hl
  obtain ⟨m0, m1, m3, m4, m5, mF, mO, mS⟩ := id hM
  refine lv_aload_n hx hb dX12_back_0 rfl (lv_at hl 0 rfl) ?_
  refine va_get (D := D) (ci := 12) (v := .int (iZ Mmk)) (C := RX12) (T := TX12) (N := 36) hx hb hts iX12 hown hK hP 0 rfl rfl 35 (by decide) (hts _ qf_X12_412) (fun _ h => h) rfl dX12_back_1 ?_
  refine lv_if_ne (tgt := 14) hx hb dX12_back_4 (by decide) (fun c_1 => ?_) (fun c_1 => ?_)
  ·
    have c_1 := mt (zeq (x := iZ Mmk) (y := iZ 0) rfl rfl ⟨by omega, by omega⟩ ⟨by omega, by omega⟩).mpr c_1
    refine lv_aload_n hx hb dX12_back_14 rfl (lv_at hl 0 rfl) ?_
    refine lv_aload_n hx hb dX12_back_15 rfl (lv_at hl 0 rfl) ?_
    refine va_get (D := D) (ci := 12) (v := .int (iZ Mmk)) (C := RX12) (T := TX12) (N := 36) hx hb hts iX12 hown hK hP 0 rfl rfl 35 (by decide) (hts _ qf_X12_412) (fun _ h => h) rfl dX12_back_16 ?_
    refine lv_iconst (v := iZ 0) hx hb dX12_back_19 (by decide) ?_
    refine CWV (As := [.int (iZ Mmk), .int (iZ 0)]) (rest := []) (wc := [(hm, .inr (12, [.ref Ma, .ref Mn, .int (iZ Mst), .long Mtp, .long Mbt, .ref Ms, .ref My, .ref Mt, .ref Mp, .ref Mx, .int (iZ Mtd), .int (iZ Msz), .int (iZ Mtk), .int (iZ Mfr), .int (iZ Men), .int (iZ Mva), .int (iZ Mfk), .int (iZ Mfp), .int (iZ Mfs), .int (iZ Mse), .int (iZ Mlt), .ref Mo, .int (iZ Mdp), .int (iZ Mct), .ref Mk, .ref Ml, .ref Mb, .ref Mh, .ref Mc, .int (iZ Mdr), .int (iZ Mrs), .ref Mz, .ref Mr, .ref Mq, .int (iZ Mit), .int (iZ Mmk)])), (Ma, .inl (k 1, 5340, .inl Af)), (Mn, .inl (k 2, 36, .inr (.inl Nf)))]) (wr := []) hx hb hml hown hts hKK hP hD hS hA (m_copies l D k ([.ref Ma, .ref Mn, .int (iZ Mst), .long Mtp, .long Mbt, .ref Ms, .ref My, .ref Mt, .ref Mp, .ref Mx, .int (iZ Mtd), .int (iZ Msz), .int (iZ Mtk), .int (iZ Mfr), .int (iZ Men), .int (iZ Mva), .int (iZ Mfk), .int (iZ Mfp), .int (iZ Mfs), .int (iZ Mse), .int (iZ Mlt), .ref Mo, .int (iZ Mdp), .int (iZ Mct), .ref Mk, .ref Ml, .ref Mb, .ref Mh, .ref Mc, .int (iZ Mdr), .int (iZ Mrs), .ref Mz, .ref Mr, .ref Mq, .int (iZ Mit), .int (iZ Mmk)]) hm Ma Mn Af Nf Mmk 0 rfl rfl ⟨by omega, by omega⟩ ⟨by omega, by omega⟩ (by omega)) ci_X12_copies qm_X12_415 ⟨Nat.le_of_ble_eq_true rfl, Nat.le_of_ble_eq_true rfl⟩ ⟨Nat.le_of_ble_eq_true rfl, Nat.le_of_ble_eq_true rfl⟩ [0, 1, 2] [] rfl rfl rfl rfl rfl (by decide) 0 rfl rfl rfl hl.1 rfl (Nat.le_of_ble_eq_true rfl) dX12_back_20 (fun u_2 H locs hφ hP hD hS => ?_)
    obtain ⟨I_3, L_4, F_5, G_6⟩ := u_2
    have p_8 : (∀ e : Int, 0 ≤ e → e < 890 → gz (F_5 0) (890 * 0 + e) = gz Af (890 * Mmk + e)) ∧ ∀ j : Int, 0 ≤ j → (j < 890 * 0 ∨ 890 * 0 + 890 ≤ j) → gz (F_5 0) j = gz Af j := hφ
    refine W.eq (g2 := F0 m 23 ls []) rfl ?_
    refine lv_aload_n hx hb dX12_back_23 rfl (lv_at hl 0 rfl) ?_
    refine lv_dup hx hb dX12_back_24 rfl ?_
    refine va_get (D := D) (ci := 12) (v := .int (iZ Mmk)) (C := RX12) (T := TX12) (N := 36) hx hb hts iX12 hown hK hP 0 rfl rfl 35 (by decide) (hts _ qf_X12_412) (fun _ h => h) rfl dX12_back_25 ?_
    refine lv_iconst (v := iZ 1) hx hb dX12_back_28 (by decide) ?_
    refine lv_isub hx hb dX12_back_29 ?_
    refine lv_topi (fun x_9 ex_9 => ?_)
    obtain rfl : x_9 = iZ (Mmk - 1) := ex_9.trans (iZ_sub Mmk 1)
    refine va_put (D := D) (ci := 12) (v := .int (iZ (Mmk - 1))) (ty := .int) (C := RX12) (T := TX12) (N := 36) hx hb hts iX12 tyX12 tyX12_ok nmX12 hown hK hP hD hS 0 rfl rfl 35 (by decide) (hts _ qf_X12_412) (fun _ h => h) rfl (by decide +kernel) rfl rfl (Nat.le_of_ble_eq_true rfl) dX12_back_30 (fun H locs hP hD hS => ?_)
    refine lv_aload_n hx hb dX12_back_33 rfl (lv_at hl 0 rfl) ?_
    refine lv_aload_n hx hb dX12_back_34 rfl (lv_at hl 0 rfl) ?_
    refine va_get (D := D) (ci := 12) (v := .int (iZ (Mmk - 1))) (C := RX12) (T := TX12) (N := 36) hx hb hts iX12 hown hK hP 0 rfl rfl 35 (by decide) (hts _ qf_X12_412) (fun _ h => h) rfl dX12_back_35 ?_
    refine CWV (As := [.int (iZ (Mmk - 1))]) (rest := []) (wc := [(hm, .inr (12, [.ref Ma, .ref Mn, .int (iZ Mst), .long Mtp, .long Mbt, .ref Ms, .ref My, .ref Mt, .ref Mp, .ref Mx, .int (iZ Mtd), .int (iZ Msz), .int (iZ Mtk), .int (iZ Mfr), .int (iZ Men), .int (iZ Mva), .int (iZ Mfk), .int (iZ Mfp), .int (iZ Mfs), .int (iZ Mse), .int (iZ Mlt), .ref Mo, .int (iZ Mdp), .int (iZ Mct), .ref Mk, .ref Ml, .ref Mb, .ref Mh, .ref Mc, .int (iZ Mdr), .int (iZ Mrs), .ref Mz, .ref Mr, .ref Mq, .int (iZ Mit), .int (iZ (Mmk - 1))]))]) (wr := [(Ma, .inl (k 1, 5340, .inl (F_5 0))), (Mn, .inl (k 2, 36, .inr (.inl (G_6 0))))]) hx hb hml hown hts hKK hP hD hS hA (m_gives l D k hm Ma Mn Ms My Mt Mp Mx Mo Mk Ml Mb Mh Mc Mz Mr Mq Mst Mtd Msz Mtk Mfr Men Mva Mfk Mfp Mfs Mse Mlt Mdp Mct Mdr Mrs Mit (Mmk - 1) Mtp Mbt (Mmk - 1)) ci_X12_gives qm_X12_85 ⟨Nat.le_of_ble_eq_true rfl, Nat.le_of_ble_eq_true rfl⟩ ⟨Nat.le_of_ble_eq_true rfl, Nat.le_of_ble_eq_true rfl⟩ [0] [1, 2] rfl rfl rfl rfl rfl (by decide) 0 rfl rfl rfl hl.1 rfl (Nat.le_of_ble_eq_true rfl) dX12_back_38 (fun u_10 H locs hφ hP hD hS => ?_)
    obtain ⟨I_11, L_12, F_13, G_14⟩ := u_10
    refine W.eq (g2 := F0 m 41 ls [.int (iZ (Mmk - 1))]) rfl ?_
    exact EWi hx hb hr hlocks hS (fun i => [(Mmk - 1), 0, (Mmk - 1)].getD i 0, fun i => [0].getD i 0, fun i => [(F_5 0)].getD i (fun _ => 0), fun i => [(G_6 0)].getD i (fun _ => 0)) rfl ⟨(show 0 ≤ (Mmk - 1) ∧ (Mmk - 1) ≤ 3 from (by omega)), (show MK (F_5 0) (Mmk - 1) ∧ M0 (F_5 0) from (MK.back (n := Mmk) ⟨by omega, by omega⟩ hMK p_8.1 p_8.2)), (show (Mmk = 0 ∧ (Mmk - 1) = -1 ∧ (Mmk - 1) = 0) ∨ (0 < Mmk ∧ (Mmk - 1) = Mmk - 1 ∧ (Mmk - 1) = Mmk - 1) from (by omega))⟩ (hP.sub [2, 0, 1] rfl) (hD.sub [2, 0, 1] rfl rfl) dX12_back_41
  ·
    have c_1 := (zeq (x := iZ Mmk) (y := iZ 0) rfl rfl ⟨by omega, by omega⟩ ⟨by omega, by omega⟩).mp c_1
    refine lv_aload_n hx hb dX12_back_7 rfl (lv_at hl 0 rfl) ?_
    refine lv_bipush (v := iZ 6) hx hb dX12_back_8 (by decide) ?_
    refine CWV (As := [.int (iZ 6)]) (rest := []) (wc := [(hm, .inr (12, [.ref Ma, .ref Mn, .int (iZ Mst), .long Mtp, .long Mbt, .ref Ms, .ref My, .ref Mt, .ref Mp, .ref Mx, .int (iZ Mtd), .int (iZ Msz), .int (iZ Mtk), .int (iZ Mfr), .int (iZ Men), .int (iZ Mva), .int (iZ Mfk), .int (iZ Mfp), .int (iZ Mfs), .int (iZ Mse), .int (iZ Mlt), .ref Mo, .int (iZ Mdp), .int (iZ Mct), .ref Mk, .ref Ml, .ref Mb, .ref Mh, .ref Mc, .int (iZ Mdr), .int (iZ Mrs), .ref Mz, .ref Mr, .ref Mq, .int (iZ Mit), .int (iZ Mmk)]))]) (wr := [(Ma, .inl (k 1, 5340, .inl Af)), (Mn, .inl (k 2, 36, .inr (.inl Nf)))]) hx hb hml hown hts hKK hP hD hS hA (m_refuse l D k hm Ma Mn Ms My Mt Mp Mx Mo Mk Ml Mb Mh Mc Mz Mr Mq Mst Mtd Msz Mtk Mfr Men Mva Mfk Mfp Mfs Mse Mlt Mdp Mct Mdr Mrs Mit Mmk Mtp Mbt 6) ci_X12_refuse qm_X12_81 ⟨Nat.le_of_ble_eq_true rfl, Nat.le_of_ble_eq_true rfl⟩ ⟨Nat.le_of_ble_eq_true rfl, Nat.le_of_ble_eq_true rfl⟩ [0] [1, 2] rfl rfl rfl rfl rfl (by decide) 0 rfl rfl rfl hl.1 rfl (Nat.le_of_ble_eq_true rfl) dX12_back_10 (fun u_16 H locs hφ hP hD hS => ?_)
    obtain ⟨I_17, L_18, F_19, G_20⟩ := u_16
    refine W.eq (g2 := F0 m 13 ls [.int (iZ (-1))]) rfl ?_
    exact EWi hx hb hr hlocks hS (fun i => [(-1), 6, Mmk].getD i 0, fun i => [0].getD i 0, fun i => [Af].getD i (fun _ => 0), fun i => [Nf].getD i (fun _ => 0)) rfl ⟨(show 0 ≤ Mmk ∧ Mmk ≤ 3 from (by omega)), (show MK Af Mmk ∧ M0 Af from ⟨hMK, hM⟩), (show (Mmk = 0 ∧ (-1) = -1 ∧ Mmk = 0) ∨ (0 < Mmk ∧ (-1) = Mmk - 1 ∧ Mmk = Mmk - 1) from (by omega))⟩ (hP.sub [2, 0, 1] rfl) (hD.sub [2, 0, 1] rfl rfl) dX12_back_13
