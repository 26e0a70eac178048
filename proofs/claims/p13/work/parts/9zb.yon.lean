section
set_option maxHeartbeats 4000000 in
set_option maxRecDepth 100000 in
theorem x_readInto (l : Launch) (D : va_G) (k : Nat → ClassId) (hq : Nat) (hr1 : Nat) (tx : Nat) (kw : Nat) (lt : Int) (tp : Int) (ln : Int) (pl : Int) (en : Int) (ki : Int) (va : Int) (ke : Int) (fk : Int) (fp : Int) (nm : Int64) (bf : Nat → Int32) (kwf : Nat → Int64) (hs : Nat) (hN : Nat) (hf : Nat) (hg : Nat) (n : Int) (ni : Int) (lw : Int) (we : Int) (nf : Nat → Int64) (f : Nat → Int32) (g : Nat → Int32) (sv : Value) (cu : Int) (hI1 : (0 ≤ tp ∧ tp ≤ 900) ∧ (0 ≤ ln ∧ ln ≤ 900) ∧ (0 ≤ pl ∧ pl ≤ en) ∧ (en ≤ ln) ∧ (0 ≤ ki ∧ ki ≤ 4) ∧ (-2147483648 ≤ va ∧ va < 2147483648) ∧ (-1 ≤ ke ∧ ke ≤ 24)) (hbf : rgI bf (-128) 127 900) (hkw : ∀ j : Nat, j < 25 → kwf j = lZ (kwC j)) (hrx : RDX (tX bf ln) cu pl en ki va ke nm) (hp0 : cu = 0) : WD (σ := ((Int × Int × Int × Int × Int × Int × Int × Int × Int × Int × Int × Int × Int) × (Int64 × Int64) × ((Nat → Int32) × (Nat → Int32)) × ((Nat → Int64)))) l yX6_readInto cX6_readInto 4 (some .boolean) 5 0 0 D k [.ref hq, .ref hs] [(hq, .inr (6, [.ref hr1, sv, .int (iZ lt)])), (hr1, .inr (4, [.ref tx, .ref kw, .int (iZ tp), .int (iZ ln), .int (iZ pl), .int (iZ en), .int (iZ ki), .int (iZ va), .int (iZ ke), .long nm, .int (iZ fk), .int (iZ fp)])), (tx, .inl (k 0, 900, .inl bf)), (kw, .inl (k 2, 25, .inr (.inl kwf))), (hs, .inr (5, [.ref hN, .ref hf, .ref hg, .int (iZ n), .int (iZ ni), .int (iZ lw), .int (iZ we)])), (hN, .inl (k 2, 6, .inr (.inl nf))), (hf, .inl (k 1, 36, .inl f)), (hg, .inl (k 1, 32, .inl g))] (fun u => some (.int (iZ u.1.1))) (fun u => ((0 ≤ tp ∧ tp ≤ 900) ∧ (0 ≤ ln ∧ ln ≤ 900) ∧ (0 ≤ u.1.2.1 ∧ u.1.2.1 ≤ u.1.2.2.1) ∧ (u.1.2.2.1 ≤ ln) ∧ (0 ≤ u.1.2.2.2.1 ∧ u.1.2.2.2.1 ≤ 4) ∧ (-2147483648 ≤ u.1.2.2.2.2.1 ∧ u.1.2.2.2.2.1 < 2147483648) ∧ (-1 ≤ u.1.2.2.2.2.2.1 ∧ u.1.2.2.2.2.2.1 ≤ 24)) ∧ (u.1.1 = 0 ∨ u.1.1 = 1) ∧ ((0 ≤ u.1.2.2.2.2.2.2.2.2.2.1 ∧ u.1.2.2.2.2.2.2.2.2.2.1 ≤ 8) ∧ (0 ≤ u.1.2.2.2.2.2.2.2.2.2.2.1 ∧ u.1.2.2.2.2.2.2.2.2.2.2.1 ≤ 3)) ∧ (u.1.2.2.2.2.2.2.2.2.2.2.2.2 = 0 ∨ u.1.2.2.2.2.2.2.2.2.2.2.2.2 = 1) ∧ (-2147483648 ≤ u.1.2.2.2.2.2.2.2.2.2.2.2.1 ∧ u.1.2.2.2.2.2.2.2.2.2.2.2.1 < 2147483648) ∧ (u.1.1 = 1 → (0 ≤ u.1.2.2.2.2.2.2.2.2.1 ∧ u.1.2.2.2.2.2.2.2.2.1 ≤ 6) ∧ SKZ u.2.2.1.1 u.1.2.2.2.2.2.2.2.2.1) ∧ (((u.1.1 : Int) = 1 ∧ ∃ (q9 : Int) (s9 : XS), xAll (tX bf ln) 1000 cu xS0 = .inr (q9, s9) ∧ SKX s9 u.1.2.2.2.2.2.2.2.2.1 u.1.2.2.2.2.2.2.2.2.2.1 u.1.2.2.2.2.2.2.2.2.2.2.1 u.1.2.2.2.2.2.2.2.2.2.2.2.1 u.2.2.1.1 u.2.2.1.2 u.2.2.2 ∧ u.1.2.2.2.2.2.2.1 = fk ∧ u.1.2.2.2.2.2.2.2.1 = fp) ∨ ((u.1.1 : Int) = 0 ∧ xAll (tX bf ln) 1000 cu xS0 = .inl (u.1.2.2.2.2.2.2.1, u.1.2.2.2.2.2.2.2.1)))) (fun u => [(hq, .inr (6, [.ref hr1, .ref hs, .int (iZ u.1.2.2.2.2.2.2.2.2.2.2.2.2)])), (hr1, .inr (4, [.ref tx, .ref kw, .int (iZ tp), .int (iZ ln), .int (iZ u.1.2.1), .int (iZ u.1.2.2.1), .int (iZ u.1.2.2.2.1), .int (iZ u.1.2.2.2.2.1), .int (iZ u.1.2.2.2.2.2.1), .long u.2.1.2, .int (iZ u.1.2.2.2.2.2.2.1), .int (iZ u.1.2.2.2.2.2.2.2.1)])), (tx, .inl (k 0, 900, .inl bf)), (kw, .inl (k 2, 25, .inr (.inl kwf))), (hs, .inr (5, [.ref hN, .ref hf, .ref hg, .int (iZ u.1.2.2.2.2.2.2.2.2.1), .int (iZ u.1.2.2.2.2.2.2.2.2.2.1), .int (iZ u.1.2.2.2.2.2.2.2.2.2.2.1), .int (iZ u.1.2.2.2.2.2.2.2.2.2.2.2.1)])), (hN, .inl (k 2, 6, .inr (.inl u.2.2.2))), (hf, .inl (k 1, 36, .inl u.2.2.1.1)), (hg, .inl (k 1, 32, .inl u.2.2.1.2))]) := by
  refine MW (by decide) (Nat.le_of_ble_eq_true rfl) (fun p e s m below meth c ls A hx hb hml hr hlocks hin hts hown hKK hP hD hS hA hl => ?_)
  have hK := hKK.1
  have hl : lv_has ls 4 [(0, .ref hq), (1, .ref hs)] := hl
  obtain ⟨⟨ar_1, br_1⟩, cr_1, dr_1, er_1, fr_1, gr_1, hr_1⟩ := id hrx
  refine lv_aload_n hx hb dX6_readInto_0 rfl (lv_at hl 0 rfl) ?_
  refine lv_aload_n hx hb dX6_readInto_1 rfl (lv_at hl 1 rfl) ?_
  refine va_put (D := D) (ci := 6) (v := .ref hs) (ty := (tyX6 1)) (C := RX6) (T := TX6) (N := 3) hx hb hts iX6 tyX6 tyX6_ok nmX6 hown hK hP hD hS 0 rfl rfl 1 (bl rfl) (hts _ qf_X6_15) (fun _ h => h) rfl (by decide +kernel) rfl rfl (Nat.le_of_ble_eq_true rfl) dX6_readInto_2 (fun H locs hP hD hS => ?_)
  refine lv_aload_n hx hb dX6_readInto_5 rfl (lv_at hl 0 rfl) ?_
  refine va_get (D := D) (ci := 6) (v := .ref hs) (C := RX6) (T := TX6) (N := 3) hx hb hts iX6 hown hK hP 0 rfl rfl 1 (bl rfl) (hts _ qf_X6_15) (fun _ h => h) rfl dX6_readInto_6 ?_
  refine CWV (As := []) (rest := []) (wc := _) (wr := [(hq, .inr (6, [.ref hr1, .ref hs, .int (iZ lt)])), (hr1, .inr (4, [.ref tx, .ref kw, .int (iZ tp), .int (iZ ln), .int (iZ pl), .int (iZ en), .int (iZ ki), .int (iZ va), .int (iZ ke), .long nm, .int (iZ fk), .int (iZ fp)])), (tx, .inl (k 0, 900, .inl bf)), (kw, .inl (k 2, 25, .inr (.inl kwf)))]) hx hb hml hown hts hKK hP hD hS hA (k_sclear l D k hs hN hf hg n ni lw we nf f g) ci_X5_clear qm_X6_19 ⟨Nat.le_of_ble_eq_true rfl, Nat.le_of_ble_eq_true rfl⟩ ⟨Nat.le_of_ble_eq_true rfl, Nat.le_of_ble_eq_true rfl⟩ [4, 5, 6, 7] [0, 1, 2, 3] rfl rfl rfl rfl rfl (dj rfl) 0 rfl rfl rfl hl.1 rfl (Nat.le_of_ble_eq_true rfl) dX6_readInto_9 (fun u_2 H locs hφ hP hD hS => ?_)
  have p_3 : ∀ e : Int, 0 ≤ e → e < 36 → gz u_2.2.2.1 e = 0 := hφ
  refine W.eq (g2 := F0 m 12 ls []) rfl ?_
  refine lv_aload_n hx hb dX6_readInto_12 rfl (lv_at hl 0 rfl) ?_
  refine lv_iconst (v := iZ 0) hx hb dX6_readInto_13 rfl ?_
  refine va_put (D := D) (ci := 6) (v := .int (iZ 0)) (ty := .boolean) (C := RX6) (T := TX6) (N := 3) hx hb hts iX6 tyX6 tyX6_ok nmX6 hown hK hP hD hS 0 rfl rfl 2 (bl rfl) (hts _ qf_X6_24) (fun _ h => h) rfl (by decide +kernel) rfl rfl (Nat.le_of_ble_eq_true rfl) dX6_readInto_14 (fun H locs hP hD hS => ?_)
  refine lv_iconst (v := iZ 1) hx hb dX6_readInto_17 rfl ?_
  refine lv_istore_n (lv' := [(2, .int (iZ 1)), (0, .ref hq), (1, .ref hs)]) hx hb dX6_readInto_18 rfl hl (bl rfl) rfl (fun ls hl => ?_)
  refine lv_iconst (v := iZ 0) hx hb dX6_readInto_19 rfl ?_
  refine lv_istore_n (lv' := [(3, .int (iZ 0)), (2, .int (iZ 1)), (0, .ref hq), (1, .ref hs)]) hx hb dX6_readInto_20 rfl hl (bl rfl) rfl (fun ls hl => ?_)
  have HL1 : ∀ (fu : Nat) (fi : Int) (i : Int) (lt3 : Int) (n3 : Int) (ni3 : Int) (lw3 : Int) (we3 : Int) (pl3 : Int) (en3 : Int) (ki3 : Int) (va3 : Int) (ke3 : Int) (nm3 : Int64) (fk3 : Int) (fp3 : Int) (nf3 : Nat → Int64) (f3 : Nat → Int32) (g3 : Nat → Int32) (cp : Int) (cF : Int → Int) (cG : Int → Int) (cN : Int → Int) (H : Heap) (locs : List Loc) (ls : Array Slot), (902 - i) < (fu : Int) → (0 ≤ i ∧ i ≤ 901) → (fi = 0 ∨ fi = 1) → (0 ≤ ni3 ∧ ni3 ≤ 8) → ((lt3 : Int) = 0 ∨ (lt3 : Int) = 1) → (0 ≤ lw3 ∧ lw3 ≤ 3) → (-2147483648 ≤ we3 ∧ we3 < 2147483648) → ((0 ≤ tp ∧ tp ≤ 900) ∧ (0 ≤ ln ∧ ln ≤ 900) ∧ (0 ≤ pl3 ∧ pl3 ≤ en3) ∧ (en3 ≤ ln) ∧ (0 ≤ ki3 ∧ ki3 ≤ 4) ∧ (-2147483648 ≤ va3 ∧ va3 < 2147483648) ∧ (-1 ≤ ke3 ∧ ke3 ≤ 24)) → (fi = 1 → (0 ≤ n3 ∧ n3 ≤ 6) ∧ SKZ f3 n3 ∧ RDX (tX bf ln) cp pl3 en3 ki3 va3 ke3 nm3 ∧ xRw f3 cF 36 ∧ xRw g3 cG (ni3 * 4) ∧ xNs nf3 cN n3 ∧ xAll (tX bf ln) 1000 cu xS0 = xAll (tX bf ln) (Int.toNat (1000 - i)) cp (n3, ni3, lw3, we3, lt3, cF, cG, cN) ∧ i ≤ cp ∧ fk3 = fk ∧ fp3 = fp) → (fi = 0 → xAll (tX bf ln) 1000 cu xS0 = .inl (fk3, fp3)) → va_P D vwCl [(hq, .inr (6, [.ref hr1, .ref hs, .int (iZ lt3)])), (hr1, .inr (4, [.ref tx, .ref kw, .int (iZ tp), .int (iZ ln), .int (iZ pl3), .int (iZ en3), .int (iZ ki3), .int (iZ va3), .int (iZ ke3), .long nm3, .int (iZ fk3), .int (iZ fp3)])), (tx, .inl (k 0, 900, .inl bf)), (kw, .inl (k 2, 25, .inr (.inl kwf))), (hs, .inr (5, [.ref hN, .ref hf, .ref hg, .int (iZ n3), .int (iZ ni3), .int (iZ lw3), .int (iZ we3)])), (hN, .inl (k 2, 6, .inr (.inl nf3))), (hf, .inl (k 1, 36, .inl f3)), (hg, .inl (k 1, 32, .inl g3))] H → va_D A [(hq, .inr (6, [.ref hr1, .ref hs, .int (iZ lt3)])), (hr1, .inr (4, [.ref tx, .ref kw, .int (iZ tp), .int (iZ ln), .int (iZ pl3), .int (iZ en3), .int (iZ ki3), .int (iZ va3), .int (iZ ke3), .long nm3, .int (iZ fk3), .int (iZ fp3)])), (tx, .inl (k 0, 900, .inl bf)), (kw, .inl (k 2, 25, .inr (.inl kwf))), (hs, .inr (5, [.ref hN, .ref hf, .ref hg, .int (iZ n3), .int (iZ ni3), .int (iZ lw3), .int (iZ we3)])), (hN, .inl (k 2, 6, .inr (.inl nf3))), (hf, .inl (k 1, 36, .inl f3)), (hg, .inl (k 1, 32, .inl g3))] → va_S A s.heap H locs → lv_has ls 4 [(3, .int (iZ i)), (2, .int (iZ fi)), (0, .ref hq), (1, .ref hs)] → W p l e (rj 5 0 0) s m [.ref hq, .ref hs].toArray below meth c H locs 0 0 (MQ below (QW (σ := ((Int × Int × Int × Int × Int × Int × Int × Int × Int × Int × Int × Int × Int) × (Int64 × Int64) × ((Nat → Int32) × (Nat → Int32)) × ((Nat → Int64)))) (fun u => some (.int (iZ u.1.1))) (fun u => ((0 ≤ tp ∧ tp ≤ 900) ∧ (0 ≤ ln ∧ ln ≤ 900) ∧ (0 ≤ u.1.2.1 ∧ u.1.2.1 ≤ u.1.2.2.1) ∧ (u.1.2.2.1 ≤ ln) ∧ (0 ≤ u.1.2.2.2.1 ∧ u.1.2.2.2.1 ≤ 4) ∧ (-2147483648 ≤ u.1.2.2.2.2.1 ∧ u.1.2.2.2.2.1 < 2147483648) ∧ (-1 ≤ u.1.2.2.2.2.2.1 ∧ u.1.2.2.2.2.2.1 ≤ 24)) ∧ (u.1.1 = 0 ∨ u.1.1 = 1) ∧ ((0 ≤ u.1.2.2.2.2.2.2.2.2.2.1 ∧ u.1.2.2.2.2.2.2.2.2.2.1 ≤ 8) ∧ (0 ≤ u.1.2.2.2.2.2.2.2.2.2.2.1 ∧ u.1.2.2.2.2.2.2.2.2.2.2.1 ≤ 3)) ∧ (u.1.2.2.2.2.2.2.2.2.2.2.2.2 = 0 ∨ u.1.2.2.2.2.2.2.2.2.2.2.2.2 = 1) ∧ (-2147483648 ≤ u.1.2.2.2.2.2.2.2.2.2.2.2.1 ∧ u.1.2.2.2.2.2.2.2.2.2.2.2.1 < 2147483648) ∧ (u.1.1 = 1 → (0 ≤ u.1.2.2.2.2.2.2.2.2.1 ∧ u.1.2.2.2.2.2.2.2.2.1 ≤ 6) ∧ SKZ u.2.2.1.1 u.1.2.2.2.2.2.2.2.2.1) ∧ (((u.1.1 : Int) = 1 ∧ ∃ (q9 : Int) (s9 : XS), xAll (tX bf ln) 1000 cu xS0 = .inr (q9, s9) ∧ SKX s9 u.1.2.2.2.2.2.2.2.2.1 u.1.2.2.2.2.2.2.2.2.2.1 u.1.2.2.2.2.2.2.2.2.2.2.1 u.1.2.2.2.2.2.2.2.2.2.2.2.1 u.2.2.1.1 u.2.2.1.2 u.2.2.2 ∧ u.1.2.2.2.2.2.2.1 = fk ∧ u.1.2.2.2.2.2.2.2.1 = fp) ∨ ((u.1.1 : Int) = 0 ∧ xAll (tX bf ln) 1000 cu xS0 = .inl (u.1.2.2.2.2.2.2.1, u.1.2.2.2.2.2.2.2.1)))) (fun u => [(hq, .inr (6, [.ref hr1, .ref hs, .int (iZ u.1.2.2.2.2.2.2.2.2.2.2.2.2)])), (hr1, .inr (4, [.ref tx, .ref kw, .int (iZ tp), .int (iZ ln), .int (iZ u.1.2.1), .int (iZ u.1.2.2.1), .int (iZ u.1.2.2.2.1), .int (iZ u.1.2.2.2.2.1), .int (iZ u.1.2.2.2.2.2.1), .long u.2.1.2, .int (iZ u.1.2.2.2.2.2.2.1), .int (iZ u.1.2.2.2.2.2.2.2.1)])), (tx, .inl (k 0, 900, .inl bf)), (kw, .inl (k 2, 25, .inr (.inl kwf))), (hs, .inr (5, [.ref hN, .ref hf, .ref hg, .int (iZ u.1.2.2.2.2.2.2.2.2.1), .int (iZ u.1.2.2.2.2.2.2.2.2.2.1), .int (iZ u.1.2.2.2.2.2.2.2.2.2.2.1), .int (iZ u.1.2.2.2.2.2.2.2.2.2.2.2.1)])), (hN, .inl (k 2, 6, .inr (.inl u.2.2.2))), (hf, .inl (k 1, 36, .inl u.2.2.1.1)), (hg, .inl (k 1, 32, .inl u.2.2.1.2))]) D A) [.ref hq, .ref hs].toArray s 0 0 A) (F0 m 21 ls []) := by
    intro fu
    induction fu with
    | zero => intro fi i lt3 n3 ni3 lw3 we3 pl3 en3 ki3 va3 ke3 nm3 fk3 fp3 nf3 f3 g3 cp cF cG cN H locs ls hμ1 hi0 hfi hni3 hlt3 hlw3 hwe3 hrd3 h1 h0 hP hD hS hl; exact absurd hμ1 (by omega)
    | succ fu ih1 =>
      intro fi i lt3 n3 ni3 lw3 we3 pl3 en3 ki3 va3 ke3 nm3 fk3 fp3 nf3 f3 g3 cp cF cG cN H locs ls hμ1 hi0 hfi hni3 hlt3 hlw3 hwe3 hrd3 h1 h0 hP hD hS hl
      refine lv_iload_n hx hb dX6_readInto_21 rfl (lv_at hl 0 rfl) ?_
      refine lv_sipush (v := iZ 900) hx hb dX6_readInto_22 sip_900 ?_
      refine lv_icmp_gt (tgt := 123) hx hb dX6_readInto_25 rfl (fun c_4 => ?_) (fun c_4 => ?_)
      ·
        have c_4 := (zlt (x := iZ 900) (y := iZ i) rfl rfl wn_900 ⟨by omega, by omega⟩).mp c_4
        refine lv_iload_n hx hb dX6_readInto_123 rfl (lv_at hl 1 rfl) ?_
        rcases hfi with rfl | rfl
        ·
          exact EWz hx hb hr hlocks hS ((0, pl3, en3, ki3, va3, ke3, fk3, fp3, n3, ni3, lw3, we3, lt3), (0, nm3), (f3, g3), nf3) rfl rfl ⟨(show (0 ≤ tp ∧ tp ≤ 900) ∧ (0 ≤ ln ∧ ln ≤ 900) ∧ (0 ≤ pl3 ∧ pl3 ≤ en3) ∧ (en3 ≤ ln) ∧ (0 ≤ ki3 ∧ ki3 ≤ 4) ∧ (-2147483648 ≤ va3 ∧ va3 < 2147483648) ∧ (-1 ≤ ke3 ∧ ke3 ≤ 24) from (by first | with_reducible assumption | exact ⟨⟨by omega, by omega⟩, ⟨by omega, by omega⟩, ⟨by omega, by omega⟩, by omega, ⟨by omega, by omega⟩, ⟨by omega, by omega⟩, by omega, by omega⟩)), (show 0 = 0 ∨ 0 = 1 from (by omega)), (show (0 ≤ ni3 ∧ ni3 ≤ 8) ∧ (0 ≤ lw3 ∧ lw3 ≤ 3) from (by omega)), (show lt3 = 0 ∨ lt3 = 1 from (by omega)), (show -2147483648 ≤ we3 ∧ we3 < 2147483648 from ⟨by omega, by omega⟩), (show 0 = 1 → (0 ≤ n3 ∧ n3 ≤ 6) ∧ SKZ f3 n3 from (fun h => absurd (show (0 : Int) = 1 from h) (by decide))), (show ((0 : Int) = 1 ∧ ∃ (q9 : Int) (s9 : XS), xAll (tX bf ln) 1000 cu xS0 = .inr (q9, s9) ∧ SKX s9 n3 ni3 lw3 we3 f3 g3 nf3 ∧ fk3 = fk ∧ fp3 = fp) ∨ ((0 : Int) = 0 ∧ xAll (tX bf ln) 1000 cu xS0 = .inl (fk3, fp3)) from (Or.inr ⟨rfl, h0 rfl⟩))⟩ (hP.sub [0, 1, 2, 3, 4, 5, 6, 7] rfl) (hD.sub [0, 1, 2, 3, 4, 5, 6, 7] rfl rfl) dX6_readInto_124
        ·
          obtain ⟨hn3, hz3, hx3, hF3, hG3, hN3, hA3, hi3, hk3, hp3⟩ := h1 rfl
          obtain ⟨⟨ar_5, br_5⟩, cr_5, dr_5, er_5, fr_5, gr_5, hr_5⟩ := id hx3
          exact EWz hx hb hr hlocks hS ((1, pl3, en3, ki3, va3, ke3, fk3, fp3, n3, ni3, lw3, we3, lt3), (0, nm3), (f3, g3), nf3) rfl rfl ⟨(show (0 ≤ tp ∧ tp ≤ 900) ∧ (0 ≤ ln ∧ ln ≤ 900) ∧ (0 ≤ pl3 ∧ pl3 ≤ en3) ∧ (en3 ≤ ln) ∧ (0 ≤ ki3 ∧ ki3 ≤ 4) ∧ (-2147483648 ≤ va3 ∧ va3 < 2147483648) ∧ (-1 ≤ ke3 ∧ ke3 ≤ 24) from (by first | with_reducible assumption | exact ⟨⟨by omega, by omega⟩, ⟨by omega, by omega⟩, ⟨by omega, by omega⟩, by omega, ⟨by omega, by omega⟩, ⟨by omega, by omega⟩, by omega, by omega⟩)), (show 1 = 0 ∨ 1 = 1 from (by omega)), (show (0 ≤ ni3 ∧ ni3 ≤ 8) ∧ (0 ≤ lw3 ∧ lw3 ≤ 3) from (by omega)), (show lt3 = 0 ∨ lt3 = 1 from (by omega)), (show -2147483648 ≤ we3 ∧ we3 < 2147483648 from ⟨by omega, by omega⟩), (show 1 = 1 → (0 ≤ n3 ∧ n3 ≤ 6) ∧ SKZ f3 n3 from (fun _ => ⟨hn3, hz3⟩)), (show ((1 : Int) = 1 ∧ ∃ (q9 : Int) (s9 : XS), xAll (tX bf ln) 1000 cu xS0 = .inr (q9, s9) ∧ SKX s9 n3 ni3 lw3 we3 f3 g3 nf3 ∧ fk3 = fk ∧ fp3 = fp) ∨ ((1 : Int) = 0 ∧ xAll (tX bf ln) 1000 cu xS0 = .inl (fk3, fp3)) from (Or.inl ⟨rfl, cp, (n3, ni3, lw3, we3, lt3, cF, cG, cN), xAll_end (i := i) ⟨by omega, by omega⟩ hA3 (by omega), ⟨rfl, rfl, rfl, rfl, hF3, hG3, hN3⟩, hk3, hp3⟩))⟩ (hP.sub [0, 1, 2, 3, 4, 5, 6, 7] rfl) (hD.sub [0, 1, 2, 3, 4, 5, 6, 7] rfl rfl) dX6_readInto_124
      ·
        have c_4 := mt (zlt (x := iZ 900) (y := iZ i) rfl rfl wn_900 ⟨by omega, by omega⟩).mpr c_4
        refine lv_iload_n hx hb dX6_readInto_28 rfl (lv_at hl 1 rfl) ?_
        refine lv_if_eq (tgt := 123) hx hb dX6_readInto_29 rfl (fun c_6 => ?_) (fun c_6 => ?_)
        ·
          have c_6 := (zeq (x := iZ fi) (y := iZ 0) rfl rfl ⟨by omega, by omega⟩ wn_0).mp c_6
          refine lv_iload_n hx hb dX6_readInto_123 rfl (lv_at hl 1 rfl) ?_
          rcases hfi with rfl | rfl
          ·
            exact EWz hx hb hr hlocks hS ((0, pl3, en3, ki3, va3, ke3, fk3, fp3, n3, ni3, lw3, we3, lt3), (0, nm3), (f3, g3), nf3) rfl rfl ⟨(show (0 ≤ tp ∧ tp ≤ 900) ∧ (0 ≤ ln ∧ ln ≤ 900) ∧ (0 ≤ pl3 ∧ pl3 ≤ en3) ∧ (en3 ≤ ln) ∧ (0 ≤ ki3 ∧ ki3 ≤ 4) ∧ (-2147483648 ≤ va3 ∧ va3 < 2147483648) ∧ (-1 ≤ ke3 ∧ ke3 ≤ 24) from (by first | with_reducible assumption | exact ⟨⟨by omega, by omega⟩, ⟨by omega, by omega⟩, ⟨by omega, by omega⟩, by omega, ⟨by omega, by omega⟩, ⟨by omega, by omega⟩, by omega, by omega⟩)), (show 0 = 0 ∨ 0 = 1 from (by omega)), (show (0 ≤ ni3 ∧ ni3 ≤ 8) ∧ (0 ≤ lw3 ∧ lw3 ≤ 3) from (by omega)), (show lt3 = 0 ∨ lt3 = 1 from (by omega)), (show -2147483648 ≤ we3 ∧ we3 < 2147483648 from ⟨by omega, by omega⟩), (show 0 = 1 → (0 ≤ n3 ∧ n3 ≤ 6) ∧ SKZ f3 n3 from (fun h => absurd (show (0 : Int) = 1 from h) (by decide))), (show ((0 : Int) = 1 ∧ ∃ (q9 : Int) (s9 : XS), xAll (tX bf ln) 1000 cu xS0 = .inr (q9, s9) ∧ SKX s9 n3 ni3 lw3 we3 f3 g3 nf3 ∧ fk3 = fk ∧ fp3 = fp) ∨ ((0 : Int) = 0 ∧ xAll (tX bf ln) 1000 cu xS0 = .inl (fk3, fp3)) from (Or.inr ⟨rfl, h0 rfl⟩))⟩ (hP.sub [0, 1, 2, 3, 4, 5, 6, 7] rfl) (hD.sub [0, 1, 2, 3, 4, 5, 6, 7] rfl rfl) dX6_readInto_124
          ·
            obtain ⟨hn3, hz3, hx3, hF3, hG3, hN3, hA3, hi3, hk3, hp3⟩ := h1 rfl
            obtain ⟨⟨ar_7, br_7⟩, cr_7, dr_7, er_7, fr_7, gr_7, hr_7⟩ := id hx3
            exact EWz hx hb hr hlocks hS ((1, pl3, en3, ki3, va3, ke3, fk3, fp3, n3, ni3, lw3, we3, lt3), (0, nm3), (f3, g3), nf3) rfl rfl ⟨(show (0 ≤ tp ∧ tp ≤ 900) ∧ (0 ≤ ln ∧ ln ≤ 900) ∧ (0 ≤ pl3 ∧ pl3 ≤ en3) ∧ (en3 ≤ ln) ∧ (0 ≤ ki3 ∧ ki3 ≤ 4) ∧ (-2147483648 ≤ va3 ∧ va3 < 2147483648) ∧ (-1 ≤ ke3 ∧ ke3 ≤ 24) from (by first | with_reducible assumption | exact ⟨⟨by omega, by omega⟩, ⟨by omega, by omega⟩, ⟨by omega, by omega⟩, by omega, ⟨by omega, by omega⟩, ⟨by omega, by omega⟩, by omega, by omega⟩)), (show 1 = 0 ∨ 1 = 1 from (by omega)), (show (0 ≤ ni3 ∧ ni3 ≤ 8) ∧ (0 ≤ lw3 ∧ lw3 ≤ 3) from (by omega)), (show lt3 = 0 ∨ lt3 = 1 from (by omega)), (show -2147483648 ≤ we3 ∧ we3 < 2147483648 from ⟨by omega, by omega⟩), (show 1 = 1 → (0 ≤ n3 ∧ n3 ≤ 6) ∧ SKZ f3 n3 from (fun _ => ⟨hn3, hz3⟩)), (show ((1 : Int) = 1 ∧ ∃ (q9 : Int) (s9 : XS), xAll (tX bf ln) 1000 cu xS0 = .inr (q9, s9) ∧ SKX s9 n3 ni3 lw3 we3 f3 g3 nf3 ∧ fk3 = fk ∧ fp3 = fp) ∨ ((1 : Int) = 0 ∧ xAll (tX bf ln) 1000 cu xS0 = .inl (fk3, fp3)) from (Or.inl ⟨rfl, cp, (n3, ni3, lw3, we3, lt3, cF, cG, cN), xAll_end (i := i) ⟨by omega, by omega⟩ hA3 (by omega), ⟨rfl, rfl, rfl, rfl, hF3, hG3, hN3⟩, hk3, hp3⟩))⟩ (hP.sub [0, 1, 2, 3, 4, 5, 6, 7] rfl) (hD.sub [0, 1, 2, 3, 4, 5, 6, 7] rfl rfl) dX6_readInto_124
        ·
          have c_6 := mt (zeq (x := iZ fi) (y := iZ 0) rfl rfl ⟨by omega, by omega⟩ wn_0).mpr c_6
          obtain ⟨hn3, hz3, hx3, hF3, hG3, hN3, hA3, hi3, hk3, hp3⟩ := h1 (by omega)
          obtain ⟨⟨ar_8, br_8⟩, cr_8, dr_8, er_8, fr_8, gr_8, hr_8⟩ := id hx3
          have hi9 : i < 901 := by omega
          refine lv_aload_n hx hb dX6_readInto_32 rfl (lv_at hl 2 rfl) ?_
          refine va_get (D := D) (ci := 6) (v := .ref hr1) (C := RX6) (T := TX6) (N := 3) hx hb hts iX6 hown hK hP 0 rfl rfl 0 (bl rfl) (hts _ qf_X6_9) (fun _ h => h) rfl dX6_readInto_33 ?_
          refine CPV (As := []) (rest := []) hx hb hml hown hts hKK (hP.sub (ws' := [(hr1, .inr (4, [.ref tx, .ref kw, .int (iZ tp), .int (iZ ln), .int (iZ pl3), .int (iZ en3), .int (iZ ki3), .int (iZ va3), .int (iZ ke3), .long nm3, .int (iZ fk3), .int (iZ fp3)]))]) [1] rfl) (k_isAtEnd l D k hr1 [.ref tx, .ref kw, .int (iZ tp), .int (iZ ln), .int (iZ pl3), .int (iZ en3), .int (iZ ki3), .int (iZ va3), .int (iZ ke3), .long nm3, .int (iZ fk3), .int (iZ fp3)] ki3 rfl ⟨by omega, by omega⟩) ci_X4_isAtEnd qm_X6_28 ⟨Nat.le_of_ble_eq_true rfl, Nat.le_of_ble_eq_true rfl⟩ ⟨Nat.le_of_ble_eq_true rfl, Nat.le_of_ble_eq_true rfl⟩ 0 rfl rfl rfl hl.1 rfl (Nat.le_of_ble_eq_true rfl) dX6_readInto_36 (fun z_9 hz_9 => ?_)
          refine lv_if_ne (tgt := 123) hx hb dX6_readInto_39 rfl (fun c_10 => ?_) (fun c_10 => ?_)
          ·
            have c_10 := mt (zeq (x := iZ z_9) (y := iZ 0) rfl rfl ⟨by omega, by omega⟩ wn_0).mpr c_10
            refine lv_iload_n hx hb dX6_readInto_123 rfl (lv_at hl 1 rfl) ?_
            rcases hfi with rfl | rfl
            ·
              exact EWz hx hb hr hlocks hS ((0, pl3, en3, ki3, va3, ke3, fk3, fp3, n3, ni3, lw3, we3, lt3), (0, nm3), (f3, g3), nf3) rfl rfl ⟨(show (0 ≤ tp ∧ tp ≤ 900) ∧ (0 ≤ ln ∧ ln ≤ 900) ∧ (0 ≤ pl3 ∧ pl3 ≤ en3) ∧ (en3 ≤ ln) ∧ (0 ≤ ki3 ∧ ki3 ≤ 4) ∧ (-2147483648 ≤ va3 ∧ va3 < 2147483648) ∧ (-1 ≤ ke3 ∧ ke3 ≤ 24) from (by first | with_reducible assumption | exact ⟨⟨by omega, by omega⟩, ⟨by omega, by omega⟩, ⟨by omega, by omega⟩, by omega, ⟨by omega, by omega⟩, ⟨by omega, by omega⟩, by omega, by omega⟩)), (show 0 = 0 ∨ 0 = 1 from (by omega)), (show (0 ≤ ni3 ∧ ni3 ≤ 8) ∧ (0 ≤ lw3 ∧ lw3 ≤ 3) from (by omega)), (show lt3 = 0 ∨ lt3 = 1 from (by omega)), (show -2147483648 ≤ we3 ∧ we3 < 2147483648 from ⟨by omega, by omega⟩), (show 0 = 1 → (0 ≤ n3 ∧ n3 ≤ 6) ∧ SKZ f3 n3 from (fun h => absurd (show (0 : Int) = 1 from h) (by decide))), (show ((0 : Int) = 1 ∧ ∃ (q9 : Int) (s9 : XS), xAll (tX bf ln) 1000 cu xS0 = .inr (q9, s9) ∧ SKX s9 n3 ni3 lw3 we3 f3 g3 nf3 ∧ fk3 = fk ∧ fp3 = fp) ∨ ((0 : Int) = 0 ∧ xAll (tX bf ln) 1000 cu xS0 = .inl (fk3, fp3)) from (Or.inr ⟨rfl, h0 rfl⟩))⟩ (hP.sub [0, 1, 2, 3, 4, 5, 6, 7] rfl) (hD.sub [0, 1, 2, 3, 4, 5, 6, 7] rfl rfl) dX6_readInto_124
            ·
              obtain ⟨hn3, hz3, hx3, hF3, hG3, hN3, hA3, hi3, hk3, hp3⟩ := h1 rfl
              obtain ⟨⟨ar_11, br_11⟩, cr_11, dr_11, er_11, fr_11, gr_11, hr_11⟩ := id hx3
              exact EWz hx hb hr hlocks hS ((1, pl3, en3, ki3, va3, ke3, fk3, fp3, n3, ni3, lw3, we3, lt3), (0, nm3), (f3, g3), nf3) rfl rfl ⟨(show (0 ≤ tp ∧ tp ≤ 900) ∧ (0 ≤ ln ∧ ln ≤ 900) ∧ (0 ≤ pl3 ∧ pl3 ≤ en3) ∧ (en3 ≤ ln) ∧ (0 ≤ ki3 ∧ ki3 ≤ 4) ∧ (-2147483648 ≤ va3 ∧ va3 < 2147483648) ∧ (-1 ≤ ke3 ∧ ke3 ≤ 24) from (by first | with_reducible assumption | exact ⟨⟨by omega, by omega⟩, ⟨by omega, by omega⟩, ⟨by omega, by omega⟩, by omega, ⟨by omega, by omega⟩, ⟨by omega, by omega⟩, by omega, by omega⟩)), (show 1 = 0 ∨ 1 = 1 from (by omega)), (show (0 ≤ ni3 ∧ ni3 ≤ 8) ∧ (0 ≤ lw3 ∧ lw3 ≤ 3) from (by omega)), (show lt3 = 0 ∨ lt3 = 1 from (by omega)), (show -2147483648 ≤ we3 ∧ we3 < 2147483648 from ⟨by omega, by omega⟩), (show 1 = 1 → (0 ≤ n3 ∧ n3 ≤ 6) ∧ SKZ f3 n3 from (fun _ => ⟨hn3, hz3⟩)), (show ((1 : Int) = 1 ∧ ∃ (q9 : Int) (s9 : XS), xAll (tX bf ln) 1000 cu xS0 = .inr (q9, s9) ∧ SKX s9 n3 ni3 lw3 we3 f3 g3 nf3 ∧ fk3 = fk ∧ fp3 = fp) ∨ ((1 : Int) = 0 ∧ xAll (tX bf ln) 1000 cu xS0 = .inl (fk3, fp3)) from (Or.inl ⟨rfl, cp, (n3, ni3, lw3, we3, lt3, cF, cG, cN), xAll_end (i := i) ⟨by omega, by omega⟩ hA3 (by omega), ⟨rfl, rfl, rfl, rfl, hF3, hG3, hN3⟩, hk3, hp3⟩))⟩ (hP.sub [0, 1, 2, 3, 4, 5, 6, 7] rfl) (hD.sub [0, 1, 2, 3, 4, 5, 6, 7] rfl rfl) dX6_readInto_124
          ·
            have c_10 := (zeq (x := iZ z_9) (y := iZ 0) rfl rfl ⟨by omega, by omega⟩ wn_0).mp c_10
            refine lv_aload_n hx hb dX6_readInto_42 rfl (lv_at hl 2 rfl) ?_
            refine va_get (D := D) (ci := 6) (v := .ref hr1) (C := RX6) (T := TX6) (N := 3) hx hb hts iX6 hown hK hP 0 rfl rfl 0 (bl rfl) (hts _ qf_X6_9) (fun _ h => h) rfl dX6_readInto_43 ?_
            refine va_get (D := D) (ci := 4) (v := .int (iZ ke3)) (C := RX4) (T := TX4) (N := 12) hx hb hts iX4 hown hK hP 1 rfl rfl 8 (bl rfl) (hts _ qf_X6_34) (fun _ h => h) rfl dX6_readInto_46 ?_
            rcases Classical.em (ke3 = 0) with c_12 | c_12
            ·
              refine lv_lookup (tgt := 84) (off := 35) hx hb dX6_readInto_49 (by decide) (by rw [iZ_ti ⟨by omega, by omega⟩, c_12]; decide) (by decide) ?_
              refine lv_aload_n hx hb dX6_readInto_84 rfl (lv_at hl 2 rfl) ?_
              refine CWV (As := []) (rest := []) (wc := _) (wr := []) hx hb hml hown hts hKK hP hD hS hA (x_readRock l D k hq hr1 tx kw lt3 tp ln pl3 en3 ki3 va3 ke3 fk3 fp3 nm3 bf kwf hs hN hf hg n3 ni3 lw3 we3 nf3 f3 g3 cp cF cN (by first | with_reducible assumption | exact ⟨⟨by omega, by omega⟩, ⟨by omega, by omega⟩, ⟨by omega, by omega⟩, by omega, ⟨by omega, by omega⟩, ⟨by omega, by omega⟩, by omega, by omega⟩) hbf hkw hx3 ⟨by omega, by omega⟩ hz3 ⟨by omega, by omega⟩ hN3 hF3) ci_X6_readRock qm_X6_38 ⟨Nat.le_of_ble_eq_true rfl, Nat.le_of_ble_eq_true rfl⟩ ⟨Nat.le_of_ble_eq_true rfl, Nat.le_of_ble_eq_true rfl⟩ [0, 1, 2, 3, 4, 5, 6, 7] [] rfl rfl rfl rfl rfl (dj rfl) 0 rfl rfl rfl hl.1 rfl (Nat.le_of_ble_eq_true rfl) dX6_readInto_85 (fun u_13 H locs hφ hP hD hS => ?_)
              obtain ⟨p_14, p_15, p_16⟩ : ((0 ≤ tp ∧ tp ≤ 900) ∧ (0 ≤ ln ∧ ln ≤ 900) ∧ (0 ≤ u_13.1.2.1 ∧ u_13.1.2.1 ≤ u_13.1.2.2.1) ∧ (u_13.1.2.2.1 ≤ ln) ∧ (0 ≤ u_13.1.2.2.2.1 ∧ u_13.1.2.2.2.1 ≤ 4) ∧ (-2147483648 ≤ u_13.1.2.2.2.2.1 ∧ u_13.1.2.2.2.2.1 < 2147483648) ∧ (-1 ≤ u_13.1.2.2.2.2.2.1 ∧ u_13.1.2.2.2.2.2.1 ≤ 24)) ∧ (-2147483648 ≤ u_13.1.2.2.2.2.2.2.2.2.2 ∧ u_13.1.2.2.2.2.2.2.2.2.2 < 2147483648) ∧ (((u_13.1.1 : Int) = 1 ∧ ∃ (q9 : Int) (F9 : Int → Int), xRock (tX bf ln) cN n3 we3 cF cp = .inr (q9, u_13.1.2.2.2.2.2.2.2.2.2, F9) ∧ cp < q9 ∧ RDX (tX bf ln) q9 u_13.1.2.1 u_13.1.2.2.1 u_13.1.2.2.2.1 u_13.1.2.2.2.2.1 u_13.1.2.2.2.2.2.1 u_13.2.1.2 ∧ xRw u_13.2.2.1 F9 36 ∧ xNs u_13.2.2.2 (xUp cN n3 (xNm (tX bf ln) (xEn (tX bf ln) cp))) u_13.1.2.2.2.2.2.2.2.2.1 ∧ u_13.1.2.2.2.2.2.2.2.2.1 = n3 + 1 ∧ (0 ≤ u_13.1.2.2.2.2.2.2.2.2.1 ∧ u_13.1.2.2.2.2.2.2.2.2.1 ≤ 6) ∧ SKZ u_13.2.2.1 u_13.1.2.2.2.2.2.2.2.2.1 ∧ u_13.1.2.2.2.2.2.2.1 = fk3 ∧ u_13.1.2.2.2.2.2.2.2.1 = fp3) ∨ ((u_13.1.1 : Int) = 0 ∧ xRock (tX bf ln) cN n3 we3 cF cp = .inl (u_13.1.2.2.2.2.2.2.1, u_13.1.2.2.2.2.2.2.2.1))) := hφ
              refine W.eq (g2 := F0 m 88 ls [.int (iZ u_13.1.1)]) rfl ?_
              rcases p_16 with ⟨qt_17, cut_17, Ft_17, st_17, lt_17, xt_17, ft_17, nt_17, et_17, it_17, zt_17, ut_17, vt_17⟩ | ⟨qt_17, st_17⟩
              ·
                rw [qt_17]
                obtain ⟨⟨ar_18, br_18⟩, cr_18, dr_18, er_18, fr_18, gr_18, hr_18⟩ := id xt_17
                refine lv_istore_n (lv' := [(2, .int (iZ 1)), (3, .int (iZ i)), (0, .ref hq), (1, .ref hs)]) hx hb dX6_readInto_88 rfl hl (bl rfl) rfl (fun ls hl => ?_)
                refine lv_goto (tgt := 117) hx hb dX6_readInto_89 rfl ?_
                refine lv_iinc (v := iZ (i + 1)) (lv' := [(3, .int (iZ (i + 1))), (2, .int (iZ 1)), (0, .ref hq), (1, .ref hs)]) hx hb dX6_readInto_117 hl (k := 1) rfl (iZ_add i 1) (by decide) rfl (fun ls hl => ?_)
                refine lv_goto (tgt := 21) hx hb dX6_readInto_120 rfl ?_
                exact ih1  1 (i + 1) lt3 u_13.1.2.2.2.2.2.2.2.2.1 ni3 lw3 u_13.1.2.2.2.2.2.2.2.2.2 u_13.1.2.1 u_13.1.2.2.1 u_13.1.2.2.2.1 u_13.1.2.2.2.2.1 u_13.1.2.2.2.2.2.1 u_13.2.1.2 u_13.1.2.2.2.2.2.2.1 u_13.1.2.2.2.2.2.2.2.1 u_13.2.2.2 u_13.2.2.1 g3 cut_17 Ft_17 cG (xUp cN n3 (xNm (tX bf ln) (xEn (tX bf ln) cp))) _ _ _ (by omega) (show 0 ≤ (i + 1) ∧ (i + 1) ≤ 901 from ⟨by omega, by omega⟩) (show 1 = 0 ∨ 1 = 1 from (by omega)) (show 0 ≤ ni3 ∧ ni3 ≤ 8 from ⟨by omega, by omega⟩) (show (lt3 : Int) = 0 ∨ (lt3 : Int) = 1 from (by omega)) (show 0 ≤ lw3 ∧ lw3 ≤ 3 from ⟨by omega, by omega⟩) (show -2147483648 ≤ u_13.1.2.2.2.2.2.2.2.2.2 ∧ u_13.1.2.2.2.2.2.2.2.2.2 < 2147483648 from ⟨by omega, by omega⟩) (show (0 ≤ tp ∧ tp ≤ 900) ∧ (0 ≤ ln ∧ ln ≤ 900) ∧ (0 ≤ u_13.1.2.1 ∧ u_13.1.2.1 ≤ u_13.1.2.2.1) ∧ (u_13.1.2.2.1 ≤ ln) ∧ (0 ≤ u_13.1.2.2.2.1 ∧ u_13.1.2.2.2.1 ≤ 4) ∧ (-2147483648 ≤ u_13.1.2.2.2.2.1 ∧ u_13.1.2.2.2.2.1 < 2147483648) ∧ (-1 ≤ u_13.1.2.2.2.2.2.1 ∧ u_13.1.2.2.2.2.2.1 ≤ 24) from (by first | with_reducible assumption | exact ⟨⟨by omega, by omega⟩, ⟨by omega, by omega⟩, ⟨by omega, by omega⟩, by omega, ⟨by omega, by omega⟩, ⟨by omega, by omega⟩, by omega, by omega⟩)) (show 1 = 1 → (0 ≤ u_13.1.2.2.2.2.2.2.2.2.1 ∧ u_13.1.2.2.2.2.2.2.2.2.1 ≤ 6) ∧ SKZ u_13.2.2.1 u_13.1.2.2.2.2.2.2.2.2.1 ∧ RDX (tX bf ln) cut_17 u_13.1.2.1 u_13.1.2.2.1 u_13.1.2.2.2.1 u_13.1.2.2.2.2.1 u_13.1.2.2.2.2.2.1 u_13.2.1.2 ∧ xRw u_13.2.2.1 Ft_17 36 ∧ xRw g3 cG (ni3 * 4) ∧ xNs u_13.2.2.2 (xUp cN n3 (xNm (tX bf ln) (xEn (tX bf ln) cp))) u_13.1.2.2.2.2.2.2.2.2.1 ∧ xAll (tX bf ln) 1000 cu xS0 = xAll (tX bf ln) (Int.toNat (1000 - (i + 1))) cut_17 (u_13.1.2.2.2.2.2.2.2.2.1, ni3, lw3, u_13.1.2.2.2.2.2.2.2.2.2, lt3, Ft_17, cG, (xUp cN n3 (xNm (tX bf ln) (xEn (tX bf ln) cp)))) ∧ (i + 1) ≤ cut_17 ∧ u_13.1.2.2.2.2.2.2.1 = fk ∧ u_13.1.2.2.2.2.2.2.2.1 = fp from (fun _ => ⟨by omega, zt_17, xt_17, ft_17, hG3, nt_17, (xAll_part (i := i) ⟨by omega, by omega⟩ hA3 (by omega) (show xPart (tX bf ln) cp (n3, ni3, lw3, we3, lt3, cF, cG, cN) = .inr (cut_17, (u_13.1.2.2.2.2.2.2.2.2.1, ni3, lw3, u_13.1.2.2.2.2.2.2.2.2.2, lt3, Ft_17, cG, (xUp cN n3 (xNm (tX bf ln) (xEn (tX bf ln) cp))))) from xPart_r (show xKw (tX bf ln) cp = 0 from (by omega)) st_17 et_17)), by omega, by omega, by omega⟩)) (show 1 = 0 → xAll (tX bf ln) 1000 cu xS0 = .inl (u_13.1.2.2.2.2.2.2.1, u_13.1.2.2.2.2.2.2.2.1) from (fun h => absurd (show (1 : Int) = 0 from h) (by decide))) (hP.sub [0, 1, 2, 3, 4, 5, 6, 7] rfl) (hD.sub [0, 1, 2, 3, 4, 5, 6, 7] rfl rfl) hS (lv_sub hl [0, 1, 2, 3] rfl)
              ·
                rw [qt_17]
                refine lv_istore_n (lv' := [(2, .int (iZ 0)), (3, .int (iZ i)), (0, .ref hq), (1, .ref hs)]) hx hb dX6_readInto_88 rfl hl (bl rfl) rfl (fun ls hl => ?_)
                refine lv_goto (tgt := 117) hx hb dX6_readInto_89 rfl ?_
                refine lv_iinc (v := iZ (i + 1)) (lv' := [(3, .int (iZ (i + 1))), (2, .int (iZ 0)), (0, .ref hq), (1, .ref hs)]) hx hb dX6_readInto_117 hl (k := 1) rfl (iZ_add i 1) (by decide) rfl (fun ls hl => ?_)
                refine lv_goto (tgt := 21) hx hb dX6_readInto_120 rfl ?_
                exact ih1  0 (i + 1) lt3 u_13.1.2.2.2.2.2.2.2.2.1 ni3 lw3 u_13.1.2.2.2.2.2.2.2.2.2 u_13.1.2.1 u_13.1.2.2.1 u_13.1.2.2.2.1 u_13.1.2.2.2.2.1 u_13.1.2.2.2.2.2.1 u_13.2.1.2 u_13.1.2.2.2.2.2.2.1 u_13.1.2.2.2.2.2.2.2.1 u_13.2.2.2 u_13.2.2.1 g3 cp cF cG cN _ _ _ (by omega) (show 0 ≤ (i + 1) ∧ (i + 1) ≤ 901 from ⟨by omega, by omega⟩) (show 0 = 0 ∨ 0 = 1 from (by omega)) (show 0 ≤ ni3 ∧ ni3 ≤ 8 from ⟨by omega, by omega⟩) (show (lt3 : Int) = 0 ∨ (lt3 : Int) = 1 from (by omega)) (show 0 ≤ lw3 ∧ lw3 ≤ 3 from ⟨by omega, by omega⟩) (show -2147483648 ≤ u_13.1.2.2.2.2.2.2.2.2.2 ∧ u_13.1.2.2.2.2.2.2.2.2.2 < 2147483648 from ⟨by omega, by omega⟩) (show (0 ≤ tp ∧ tp ≤ 900) ∧ (0 ≤ ln ∧ ln ≤ 900) ∧ (0 ≤ u_13.1.2.1 ∧ u_13.1.2.1 ≤ u_13.1.2.2.1) ∧ (u_13.1.2.2.1 ≤ ln) ∧ (0 ≤ u_13.1.2.2.2.1 ∧ u_13.1.2.2.2.1 ≤ 4) ∧ (-2147483648 ≤ u_13.1.2.2.2.2.1 ∧ u_13.1.2.2.2.2.1 < 2147483648) ∧ (-1 ≤ u_13.1.2.2.2.2.2.1 ∧ u_13.1.2.2.2.2.2.1 ≤ 24) from (by first | with_reducible assumption | exact ⟨⟨by omega, by omega⟩, ⟨by omega, by omega⟩, ⟨by omega, by omega⟩, by omega, ⟨by omega, by omega⟩, ⟨by omega, by omega⟩, by omega, by omega⟩)) (show 0 = 1 → (0 ≤ u_13.1.2.2.2.2.2.2.2.2.1 ∧ u_13.1.2.2.2.2.2.2.2.2.1 ≤ 6) ∧ SKZ u_13.2.2.1 u_13.1.2.2.2.2.2.2.2.2.1 ∧ RDX (tX bf ln) cp u_13.1.2.1 u_13.1.2.2.1 u_13.1.2.2.2.1 u_13.1.2.2.2.2.1 u_13.1.2.2.2.2.2.1 u_13.2.1.2 ∧ xRw u_13.2.2.1 cF 36 ∧ xRw g3 cG (ni3 * 4) ∧ xNs u_13.2.2.2 cN u_13.1.2.2.2.2.2.2.2.2.1 ∧ xAll (tX bf ln) 1000 cu xS0 = xAll (tX bf ln) (Int.toNat (1000 - (i + 1))) cp (u_13.1.2.2.2.2.2.2.2.2.1, ni3, lw3, u_13.1.2.2.2.2.2.2.2.2.2, lt3, cF, cG, cN) ∧ (i + 1) ≤ cp ∧ u_13.1.2.2.2.2.2.2.1 = fk ∧ u_13.1.2.2.2.2.2.2.2.1 = fp from (fun h => absurd (show (0 : Int) = 1 from h) (by decide))) (show 0 = 0 → xAll (tX bf ln) 1000 cu xS0 = .inl (u_13.1.2.2.2.2.2.2.1, u_13.1.2.2.2.2.2.2.2.1) from (fun _ => (xAll_fault (i := i) ⟨by omega, by omega⟩ hA3 (by omega) (show xPart (tX bf ln) cp (n3, ni3, lw3, we3, lt3, cF, cG, cN) = .inl _ from xPart_rl (show xKw (tX bf ln) cp = 0 from (by omega)) st_17)))) (hP.sub [0, 1, 2, 3, 4, 5, 6, 7] rfl) (hD.sub [0, 1, 2, 3, 4, 5, 6, 7] rfl rfl) hS (lv_sub hl [0, 1, 2, 3] rfl)
            ·
              rcases Classical.em (ke3 = 8) with c_19 | c_19
              ·
                refine lv_lookup (tgt := 92) (off := 43) hx hb dX6_readInto_49 (by decide) (by rw [iZ_ti ⟨by omega, by omega⟩, c_19]; decide) (by decide) ?_
                refine lv_aload_n hx hb dX6_readInto_92 rfl (lv_at hl 2 rfl) ?_
                refine CWV (As := []) (rest := []) (wc := _) (wr := []) hx hb hml hown hts hKK hP hD hS hA (x_readIce l D k hq hr1 tx kw lt3 tp ln pl3 en3 ki3 va3 ke3 fk3 fp3 nm3 bf kwf hs hN hf hg n3 ni3 lw3 we3 nf3 f3 g3 cp cG cN (by first | with_reducible assumption | exact ⟨⟨by omega, by omega⟩, ⟨by omega, by omega⟩, ⟨by omega, by omega⟩, by omega, ⟨by omega, by omega⟩, ⟨by omega, by omega⟩, by omega, by omega⟩) hbf hkw hx3 ⟨by omega, by omega⟩ ⟨by omega, by omega⟩ hN3 hG3) ci_X6_readIce qm_X6_41 ⟨Nat.le_of_ble_eq_true rfl, Nat.le_of_ble_eq_true rfl⟩ ⟨Nat.le_of_ble_eq_true rfl, Nat.le_of_ble_eq_true rfl⟩ [0, 1, 2, 3, 4, 5, 6, 7] [] rfl rfl rfl rfl rfl (dj rfl) 0 rfl rfl rfl hl.1 rfl (Nat.le_of_ble_eq_true rfl) dX6_readInto_93 (fun u_20 H locs hφ hP hD hS => ?_)
                obtain ⟨p_21, p_22, p_23⟩ : ((0 ≤ tp ∧ tp ≤ 900) ∧ (0 ≤ ln ∧ ln ≤ 900) ∧ (0 ≤ u_20.1.2.1 ∧ u_20.1.2.1 ≤ u_20.1.2.2.1) ∧ (u_20.1.2.2.1 ≤ ln) ∧ (0 ≤ u_20.1.2.2.2.1 ∧ u_20.1.2.2.2.1 ≤ 4) ∧ (-2147483648 ≤ u_20.1.2.2.2.2.1 ∧ u_20.1.2.2.2.2.1 < 2147483648) ∧ (-1 ≤ u_20.1.2.2.2.2.2.1 ∧ u_20.1.2.2.2.2.2.1 ≤ 24)) ∧ (0 ≤ u_20.1.2.2.2.2.2.2.2.2 ∧ u_20.1.2.2.2.2.2.2.2.2 ≤ 8) ∧ (((u_20.1.1 : Int) = 1 ∧ ∃ (q9 : Int) (G9 : Int → Int), xIce (tX bf ln) cN n3 ni3 cG cp = .inr (q9, G9) ∧ cp < q9 ∧ RDX (tX bf ln) q9 u_20.1.2.1 u_20.1.2.2.1 u_20.1.2.2.2.1 u_20.1.2.2.2.2.1 u_20.1.2.2.2.2.2.1 u_20.2.1.2 ∧ xRw u_20.2.2.1 G9 (u_20.1.2.2.2.2.2.2.2.2 * 4) ∧ u_20.1.2.2.2.2.2.2.2.2 = ni3 + 1 ∧ u_20.1.2.2.2.2.2.2.1 = fk3 ∧ u_20.1.2.2.2.2.2.2.2.1 = fp3) ∨ ((u_20.1.1 : Int) = 0 ∧ xIce (tX bf ln) cN n3 ni3 cG cp = .inl (u_20.1.2.2.2.2.2.2.1, u_20.1.2.2.2.2.2.2.2.1))) := hφ
                refine W.eq (g2 := F0 m 96 ls [.int (iZ u_20.1.1)]) rfl ?_
                rcases p_23 with ⟨qt_24, cut_24, Gt_24, st_24, lt_24, xt_24, ft_24, et_24, ut_24, vt_24⟩ | ⟨qt_24, st_24⟩
                ·
                  rw [qt_24]
                  obtain ⟨⟨ar_25, br_25⟩, cr_25, dr_25, er_25, fr_25, gr_25, hr_25⟩ := id xt_24
                  refine lv_istore_n (lv' := [(2, .int (iZ 1)), (3, .int (iZ i)), (0, .ref hq), (1, .ref hs)]) hx hb dX6_readInto_96 rfl hl (bl rfl) rfl (fun ls hl => ?_)
                  refine lv_goto (tgt := 117) hx hb dX6_readInto_97 rfl ?_
                  refine lv_iinc (v := iZ (i + 1)) (lv' := [(3, .int (iZ (i + 1))), (2, .int (iZ 1)), (0, .ref hq), (1, .ref hs)]) hx hb dX6_readInto_117 hl (k := 1) rfl (iZ_add i 1) (by decide) rfl (fun ls hl => ?_)
                  refine lv_goto (tgt := 21) hx hb dX6_readInto_120 rfl ?_
                  exact ih1  1 (i + 1) lt3 n3 u_20.1.2.2.2.2.2.2.2.2 lw3 we3 u_20.1.2.1 u_20.1.2.2.1 u_20.1.2.2.2.1 u_20.1.2.2.2.2.1 u_20.1.2.2.2.2.2.1 u_20.2.1.2 u_20.1.2.2.2.2.2.2.1 u_20.1.2.2.2.2.2.2.2.1 nf3 f3 u_20.2.2.1 cut_24 cF Gt_24 cN _ _ _ (by omega) (show 0 ≤ (i + 1) ∧ (i + 1) ≤ 901 from ⟨by omega, by omega⟩) (show 1 = 0 ∨ 1 = 1 from (by omega)) (show 0 ≤ u_20.1.2.2.2.2.2.2.2.2 ∧ u_20.1.2.2.2.2.2.2.2.2 ≤ 8 from ⟨by omega, by omega⟩) (show (lt3 : Int) = 0 ∨ (lt3 : Int) = 1 from (by omega)) (show 0 ≤ lw3 ∧ lw3 ≤ 3 from ⟨by omega, by omega⟩) (show -2147483648 ≤ we3 ∧ we3 < 2147483648 from ⟨by omega, by omega⟩) (show (0 ≤ tp ∧ tp ≤ 900) ∧ (0 ≤ ln ∧ ln ≤ 900) ∧ (0 ≤ u_20.1.2.1 ∧ u_20.1.2.1 ≤ u_20.1.2.2.1) ∧ (u_20.1.2.2.1 ≤ ln) ∧ (0 ≤ u_20.1.2.2.2.1 ∧ u_20.1.2.2.2.1 ≤ 4) ∧ (-2147483648 ≤ u_20.1.2.2.2.2.1 ∧ u_20.1.2.2.2.2.1 < 2147483648) ∧ (-1 ≤ u_20.1.2.2.2.2.2.1 ∧ u_20.1.2.2.2.2.2.1 ≤ 24) from (by first | with_reducible assumption | exact ⟨⟨by omega, by omega⟩, ⟨by omega, by omega⟩, ⟨by omega, by omega⟩, by omega, ⟨by omega, by omega⟩, ⟨by omega, by omega⟩, by omega, by omega⟩)) (show 1 = 1 → (0 ≤ n3 ∧ n3 ≤ 6) ∧ SKZ f3 n3 ∧ RDX (tX bf ln) cut_24 u_20.1.2.1 u_20.1.2.2.1 u_20.1.2.2.2.1 u_20.1.2.2.2.2.1 u_20.1.2.2.2.2.2.1 u_20.2.1.2 ∧ xRw f3 cF 36 ∧ xRw u_20.2.2.1 Gt_24 (u_20.1.2.2.2.2.2.2.2.2 * 4) ∧ xNs nf3 cN n3 ∧ xAll (tX bf ln) 1000 cu xS0 = xAll (tX bf ln) (Int.toNat (1000 - (i + 1))) cut_24 (n3, u_20.1.2.2.2.2.2.2.2.2, lw3, we3, lt3, cF, Gt_24, cN) ∧ (i + 1) ≤ cut_24 ∧ u_20.1.2.2.2.2.2.2.1 = fk ∧ u_20.1.2.2.2.2.2.2.2.1 = fp from (fun _ => ⟨by omega, hz3, xt_24, hF3, ft_24, hN3, (xAll_part (i := i) ⟨by omega, by omega⟩ hA3 (by omega) (show xPart (tX bf ln) cp (n3, ni3, lw3, we3, lt3, cF, cG, cN) = .inr (cut_24, (n3, u_20.1.2.2.2.2.2.2.2.2, lw3, we3, lt3, cF, Gt_24, cN)) from xPart_i (show xKw (tX bf ln) cp = 8 from (by omega)) st_24 et_24)), by omega, by omega, by omega⟩)) (show 1 = 0 → xAll (tX bf ln) 1000 cu xS0 = .inl (u_20.1.2.2.2.2.2.2.1, u_20.1.2.2.2.2.2.2.2.1) from (fun h => absurd (show (1 : Int) = 0 from h) (by decide))) (hP.sub [0, 1, 2, 3, 4, 5, 6, 7] rfl) (hD.sub [0, 1, 2, 3, 4, 5, 6, 7] rfl rfl) hS (lv_sub hl [0, 1, 2, 3] rfl)
                ·
                  rw [qt_24]
                  refine lv_istore_n (lv' := [(2, .int (iZ 0)), (3, .int (iZ i)), (0, .ref hq), (1, .ref hs)]) hx hb dX6_readInto_96 rfl hl (bl rfl) rfl (fun ls hl => ?_)
                  refine lv_goto (tgt := 117) hx hb dX6_readInto_97 rfl ?_
                  refine lv_iinc (v := iZ (i + 1)) (lv' := [(3, .int (iZ (i + 1))), (2, .int (iZ 0)), (0, .ref hq), (1, .ref hs)]) hx hb dX6_readInto_117 hl (k := 1) rfl (iZ_add i 1) (by decide) rfl (fun ls hl => ?_)
                  refine lv_goto (tgt := 21) hx hb dX6_readInto_120 rfl ?_
                  exact ih1  0 (i + 1) lt3 n3 u_20.1.2.2.2.2.2.2.2.2 lw3 we3 u_20.1.2.1 u_20.1.2.2.1 u_20.1.2.2.2.1 u_20.1.2.2.2.2.1 u_20.1.2.2.2.2.2.1 u_20.2.1.2 u_20.1.2.2.2.2.2.2.1 u_20.1.2.2.2.2.2.2.2.1 nf3 f3 u_20.2.2.1 cp cF cG cN _ _ _ (by omega) (show 0 ≤ (i + 1) ∧ (i + 1) ≤ 901 from ⟨by omega, by omega⟩) (show 0 = 0 ∨ 0 = 1 from (by omega)) (show 0 ≤ u_20.1.2.2.2.2.2.2.2.2 ∧ u_20.1.2.2.2.2.2.2.2.2 ≤ 8 from ⟨by omega, by omega⟩) (show (lt3 : Int) = 0 ∨ (lt3 : Int) = 1 from (by omega)) (show 0 ≤ lw3 ∧ lw3 ≤ 3 from ⟨by omega, by omega⟩) (show -2147483648 ≤ we3 ∧ we3 < 2147483648 from ⟨by omega, by omega⟩) (show (0 ≤ tp ∧ tp ≤ 900) ∧ (0 ≤ ln ∧ ln ≤ 900) ∧ (0 ≤ u_20.1.2.1 ∧ u_20.1.2.1 ≤ u_20.1.2.2.1) ∧ (u_20.1.2.2.1 ≤ ln) ∧ (0 ≤ u_20.1.2.2.2.1 ∧ u_20.1.2.2.2.1 ≤ 4) ∧ (-2147483648 ≤ u_20.1.2.2.2.2.1 ∧ u_20.1.2.2.2.2.1 < 2147483648) ∧ (-1 ≤ u_20.1.2.2.2.2.2.1 ∧ u_20.1.2.2.2.2.2.1 ≤ 24) from (by first | with_reducible assumption | exact ⟨⟨by omega, by omega⟩, ⟨by omega, by omega⟩, ⟨by omega, by omega⟩, by omega, ⟨by omega, by omega⟩, ⟨by omega, by omega⟩, by omega, by omega⟩)) (show 0 = 1 → (0 ≤ n3 ∧ n3 ≤ 6) ∧ SKZ f3 n3 ∧ RDX (tX bf ln) cp u_20.1.2.1 u_20.1.2.2.1 u_20.1.2.2.2.1 u_20.1.2.2.2.2.1 u_20.1.2.2.2.2.2.1 u_20.2.1.2 ∧ xRw f3 cF 36 ∧ xRw u_20.2.2.1 cG (u_20.1.2.2.2.2.2.2.2.2 * 4) ∧ xNs nf3 cN n3 ∧ xAll (tX bf ln) 1000 cu xS0 = xAll (tX bf ln) (Int.toNat (1000 - (i + 1))) cp (n3, u_20.1.2.2.2.2.2.2.2.2, lw3, we3, lt3, cF, cG, cN) ∧ (i + 1) ≤ cp ∧ u_20.1.2.2.2.2.2.2.1 = fk ∧ u_20.1.2.2.2.2.2.2.2.1 = fp from (fun h => absurd (show (0 : Int) = 1 from h) (by decide))) (show 0 = 0 → xAll (tX bf ln) 1000 cu xS0 = .inl (u_20.1.2.2.2.2.2.2.1, u_20.1.2.2.2.2.2.2.2.1) from (fun _ => (xAll_fault (i := i) ⟨by omega, by omega⟩ hA3 (by omega) (show xPart (tX bf ln) cp (n3, ni3, lw3, we3, lt3, cF, cG, cN) = .inl _ from xPart_il (show xKw (tX bf ln) cp = 8 from (by omega)) st_24)))) (hP.sub [0, 1, 2, 3, 4, 5, 6, 7] rfl) (hD.sub [0, 1, 2, 3, 4, 5, 6, 7] rfl rfl) hS (lv_sub hl [0, 1, 2, 3] rfl)
              ·
                rcases Classical.em (ke3 = 11) with c_26 | c_26
                ·
                  refine lv_lookup (tgt := 100) (off := 51) hx hb dX6_readInto_49 (by decide) (by rw [iZ_ti ⟨by omega, by omega⟩, c_26]; decide) (by decide) ?_
                  refine lv_aload_n hx hb dX6_readInto_100 rfl (lv_at hl 2 rfl) ?_
                  refine CWV (As := []) (rest := []) (wc := _) (wr := []) hx hb hml hown hts hKK hP hD hS hA (x_readLaw l D k hq hr1 tx kw lt3 tp ln pl3 en3 ki3 va3 ke3 fk3 fp3 nm3 bf kwf hs hN hf hg n3 ni3 lw3 we3 nf3 f3 g3 cp (by first | with_reducible assumption | exact ⟨⟨by omega, by omega⟩, ⟨by omega, by omega⟩, ⟨by omega, by omega⟩, by omega, ⟨by omega, by omega⟩, ⟨by omega, by omega⟩, by omega, by omega⟩) hbf hkw hx3 (by omega) ⟨by omega, by omega⟩ (by omega)) ci_X6_readLaw qm_X6_44 ⟨Nat.le_of_ble_eq_true rfl, Nat.le_of_ble_eq_true rfl⟩ ⟨Nat.le_of_ble_eq_true rfl, Nat.le_of_ble_eq_true rfl⟩ [0, 1, 2, 3, 4, 5, 6, 7] [] rfl rfl rfl rfl rfl (dj rfl) 0 rfl rfl rfl hl.1 rfl (Nat.le_of_ble_eq_true rfl) dX6_readInto_101 (fun u_27 H locs hφ hP hD hS => ?_)
                  obtain ⟨p_28, p_29, p_30⟩ : ((0 ≤ tp ∧ tp ≤ 900) ∧ (0 ≤ ln ∧ ln ≤ 900) ∧ (0 ≤ u_27.1.2.1 ∧ u_27.1.2.1 ≤ u_27.1.2.2.1) ∧ (u_27.1.2.2.1 ≤ ln) ∧ (0 ≤ u_27.1.2.2.2.1 ∧ u_27.1.2.2.2.1 ≤ 4) ∧ (-2147483648 ≤ u_27.1.2.2.2.2.1 ∧ u_27.1.2.2.2.2.1 < 2147483648) ∧ (-1 ≤ u_27.1.2.2.2.2.2.1 ∧ u_27.1.2.2.2.2.2.1 ≤ 24)) ∧ (((u_27.1.2.2.2.2.2.2.2.2.2 : Int) = 0 ∨ (u_27.1.2.2.2.2.2.2.2.2.2 : Int) = 1) ∧ 0 ≤ (u_27.1.2.2.2.2.2.2.2.2.1 : Int) ∧ (u_27.1.2.2.2.2.2.2.2.2.1 : Int) ≤ 3) ∧ (((u_27.1.1 : Int) = 1 ∧ ∃ q9 : Int, xLaw (tX bf ln) lt3 cp = .inr (q9, u_27.1.2.2.2.2.2.2.2.2.1) ∧ cp < q9 ∧ RDX (tX bf ln) q9 u_27.1.2.1 u_27.1.2.2.1 u_27.1.2.2.2.1 u_27.1.2.2.2.2.1 u_27.1.2.2.2.2.2.1 u_27.2.1.2 ∧ (u_27.1.2.2.2.2.2.2.2.2.2 : Int) = 1 ∧ u_27.1.2.2.2.2.2.2.1 = fk3 ∧ u_27.1.2.2.2.2.2.2.2.1 = fp3) ∨ ((u_27.1.1 : Int) = 0 ∧ xLaw (tX bf ln) lt3 cp = .inl (u_27.1.2.2.2.2.2.2.1, u_27.1.2.2.2.2.2.2.2.1))) := hφ
                  refine W.eq (g2 := F0 m 104 ls [.int (iZ u_27.1.1)]) rfl ?_
                  rcases p_30 with ⟨qt_31, cut_31, st_31, lt_31, xt_31, et_31, ut_31, vt_31⟩ | ⟨qt_31, st_31⟩
                  ·
                    rw [qt_31]
                    obtain ⟨⟨ar_32, br_32⟩, cr_32, dr_32, er_32, fr_32, gr_32, hr_32⟩ := id xt_31
                    refine lv_istore_n (lv' := [(2, .int (iZ 1)), (3, .int (iZ i)), (0, .ref hq), (1, .ref hs)]) hx hb dX6_readInto_104 rfl hl (bl rfl) rfl (fun ls hl => ?_)
                    refine lv_goto (tgt := 117) hx hb dX6_readInto_105 rfl ?_
                    refine lv_iinc (v := iZ (i + 1)) (lv' := [(3, .int (iZ (i + 1))), (2, .int (iZ 1)), (0, .ref hq), (1, .ref hs)]) hx hb dX6_readInto_117 hl (k := 1) rfl (iZ_add i 1) (by decide) rfl (fun ls hl => ?_)
                    refine lv_goto (tgt := 21) hx hb dX6_readInto_120 rfl ?_
                    exact ih1  1 (i + 1) u_27.1.2.2.2.2.2.2.2.2.2 n3 ni3 u_27.1.2.2.2.2.2.2.2.2.1 we3 u_27.1.2.1 u_27.1.2.2.1 u_27.1.2.2.2.1 u_27.1.2.2.2.2.1 u_27.1.2.2.2.2.2.1 u_27.2.1.2 u_27.1.2.2.2.2.2.2.1 u_27.1.2.2.2.2.2.2.2.1 nf3 f3 g3 cut_31 cF cG cN _ _ _ (by omega) (show 0 ≤ (i + 1) ∧ (i + 1) ≤ 901 from ⟨by omega, by omega⟩) (show 1 = 0 ∨ 1 = 1 from (by omega)) (show 0 ≤ ni3 ∧ ni3 ≤ 8 from ⟨by omega, by omega⟩) (show (u_27.1.2.2.2.2.2.2.2.2.2 : Int) = 0 ∨ (u_27.1.2.2.2.2.2.2.2.2.2 : Int) = 1 from (by omega)) (show 0 ≤ u_27.1.2.2.2.2.2.2.2.2.1 ∧ u_27.1.2.2.2.2.2.2.2.2.1 ≤ 3 from ⟨by omega, by omega⟩) (show -2147483648 ≤ we3 ∧ we3 < 2147483648 from ⟨by omega, by omega⟩) (show (0 ≤ tp ∧ tp ≤ 900) ∧ (0 ≤ ln ∧ ln ≤ 900) ∧ (0 ≤ u_27.1.2.1 ∧ u_27.1.2.1 ≤ u_27.1.2.2.1) ∧ (u_27.1.2.2.1 ≤ ln) ∧ (0 ≤ u_27.1.2.2.2.1 ∧ u_27.1.2.2.2.1 ≤ 4) ∧ (-2147483648 ≤ u_27.1.2.2.2.2.1 ∧ u_27.1.2.2.2.2.1 < 2147483648) ∧ (-1 ≤ u_27.1.2.2.2.2.2.1 ∧ u_27.1.2.2.2.2.2.1 ≤ 24) from (by first | with_reducible assumption | exact ⟨⟨by omega, by omega⟩, ⟨by omega, by omega⟩, ⟨by omega, by omega⟩, by omega, ⟨by omega, by omega⟩, ⟨by omega, by omega⟩, by omega, by omega⟩)) (show 1 = 1 → (0 ≤ n3 ∧ n3 ≤ 6) ∧ SKZ f3 n3 ∧ RDX (tX bf ln) cut_31 u_27.1.2.1 u_27.1.2.2.1 u_27.1.2.2.2.1 u_27.1.2.2.2.2.1 u_27.1.2.2.2.2.2.1 u_27.2.1.2 ∧ xRw f3 cF 36 ∧ xRw g3 cG (ni3 * 4) ∧ xNs nf3 cN n3 ∧ xAll (tX bf ln) 1000 cu xS0 = xAll (tX bf ln) (Int.toNat (1000 - (i + 1))) cut_31 (n3, ni3, u_27.1.2.2.2.2.2.2.2.2.1, we3, u_27.1.2.2.2.2.2.2.2.2.2, cF, cG, cN) ∧ (i + 1) ≤ cut_31 ∧ u_27.1.2.2.2.2.2.2.1 = fk ∧ u_27.1.2.2.2.2.2.2.2.1 = fp from (fun _ => ⟨by omega, hz3, xt_31, hF3, hG3, hN3, (xAll_part (i := i) ⟨by omega, by omega⟩ hA3 (by omega) (show xPart (tX bf ln) cp (n3, ni3, lw3, we3, lt3, cF, cG, cN) = .inr (cut_31, (n3, ni3, u_27.1.2.2.2.2.2.2.2.2.1, we3, u_27.1.2.2.2.2.2.2.2.2.2, cF, cG, cN)) from xPart_w (show xKw (tX bf ln) cp = 11 from (by omega)) st_31 et_31)), by omega, by omega, by omega⟩)) (show 1 = 0 → xAll (tX bf ln) 1000 cu xS0 = .inl (u_27.1.2.2.2.2.2.2.1, u_27.1.2.2.2.2.2.2.2.1) from (fun h => absurd (show (1 : Int) = 0 from h) (by decide))) (hP.sub [0, 1, 2, 3, 4, 5, 6, 7] rfl) (hD.sub [0, 1, 2, 3, 4, 5, 6, 7] rfl rfl) hS (lv_sub hl [0, 1, 2, 3] rfl)
                  ·
                    rw [qt_31]
                    refine lv_istore_n (lv' := [(2, .int (iZ 0)), (3, .int (iZ i)), (0, .ref hq), (1, .ref hs)]) hx hb dX6_readInto_104 rfl hl (bl rfl) rfl (fun ls hl => ?_)
                    refine lv_goto (tgt := 117) hx hb dX6_readInto_105 rfl ?_
                    refine lv_iinc (v := iZ (i + 1)) (lv' := [(3, .int (iZ (i + 1))), (2, .int (iZ 0)), (0, .ref hq), (1, .ref hs)]) hx hb dX6_readInto_117 hl (k := 1) rfl (iZ_add i 1) (by decide) rfl (fun ls hl => ?_)
                    refine lv_goto (tgt := 21) hx hb dX6_readInto_120 rfl ?_
                    exact ih1  0 (i + 1) u_27.1.2.2.2.2.2.2.2.2.2 n3 ni3 u_27.1.2.2.2.2.2.2.2.2.1 we3 u_27.1.2.1 u_27.1.2.2.1 u_27.1.2.2.2.1 u_27.1.2.2.2.2.1 u_27.1.2.2.2.2.2.1 u_27.2.1.2 u_27.1.2.2.2.2.2.2.1 u_27.1.2.2.2.2.2.2.2.1 nf3 f3 g3 cp cF cG cN _ _ _ (by omega) (show 0 ≤ (i + 1) ∧ (i + 1) ≤ 901 from ⟨by omega, by omega⟩) (show 0 = 0 ∨ 0 = 1 from (by omega)) (show 0 ≤ ni3 ∧ ni3 ≤ 8 from ⟨by omega, by omega⟩) (show (u_27.1.2.2.2.2.2.2.2.2.2 : Int) = 0 ∨ (u_27.1.2.2.2.2.2.2.2.2.2 : Int) = 1 from (by omega)) (show 0 ≤ u_27.1.2.2.2.2.2.2.2.2.1 ∧ u_27.1.2.2.2.2.2.2.2.2.1 ≤ 3 from ⟨by omega, by omega⟩) (show -2147483648 ≤ we3 ∧ we3 < 2147483648 from ⟨by omega, by omega⟩) (show (0 ≤ tp ∧ tp ≤ 900) ∧ (0 ≤ ln ∧ ln ≤ 900) ∧ (0 ≤ u_27.1.2.1 ∧ u_27.1.2.1 ≤ u_27.1.2.2.1) ∧ (u_27.1.2.2.1 ≤ ln) ∧ (0 ≤ u_27.1.2.2.2.1 ∧ u_27.1.2.2.2.1 ≤ 4) ∧ (-2147483648 ≤ u_27.1.2.2.2.2.1 ∧ u_27.1.2.2.2.2.1 < 2147483648) ∧ (-1 ≤ u_27.1.2.2.2.2.2.1 ∧ u_27.1.2.2.2.2.2.1 ≤ 24) from (by first | with_reducible assumption | exact ⟨⟨by omega, by omega⟩, ⟨by omega, by omega⟩, ⟨by omega, by omega⟩, by omega, ⟨by omega, by omega⟩, ⟨by omega, by omega⟩, by omega, by omega⟩)) (show 0 = 1 → (0 ≤ n3 ∧ n3 ≤ 6) ∧ SKZ f3 n3 ∧ RDX (tX bf ln) cp u_27.1.2.1 u_27.1.2.2.1 u_27.1.2.2.2.1 u_27.1.2.2.2.2.1 u_27.1.2.2.2.2.2.1 u_27.2.1.2 ∧ xRw f3 cF 36 ∧ xRw g3 cG (ni3 * 4) ∧ xNs nf3 cN n3 ∧ xAll (tX bf ln) 1000 cu xS0 = xAll (tX bf ln) (Int.toNat (1000 - (i + 1))) cp (n3, ni3, u_27.1.2.2.2.2.2.2.2.2.1, we3, u_27.1.2.2.2.2.2.2.2.2.2, cF, cG, cN) ∧ (i + 1) ≤ cp ∧ u_27.1.2.2.2.2.2.2.1 = fk ∧ u_27.1.2.2.2.2.2.2.2.1 = fp from (fun h => absurd (show (0 : Int) = 1 from h) (by decide))) (show 0 = 0 → xAll (tX bf ln) 1000 cu xS0 = .inl (u_27.1.2.2.2.2.2.2.1, u_27.1.2.2.2.2.2.2.2.1) from (fun _ => (xAll_fault (i := i) ⟨by omega, by omega⟩ hA3 (by omega) (show xPart (tX bf ln) cp (n3, ni3, lw3, we3, lt3, cF, cG, cN) = .inl _ from xPart_wl (show xKw (tX bf ln) cp = 11 from (by omega)) st_31)))) (hP.sub [0, 1, 2, 3, 4, 5, 6, 7] rfl) (hD.sub [0, 1, 2, 3, 4, 5, 6, 7] rfl rfl) hS (lv_sub hl [0, 1, 2, 3] rfl)
                ·
                  refine lv_lookup (tgt := 108) (off := 59) hx hb dX6_readInto_49 (by decide) (by rw [iZ_ti ⟨by omega, by omega⟩]; simp [Op.lookupswitch.offset, show ¬ (ke3 : Int) = 0 from c_12, show ¬ (0 : Int) = ke3 from fun h => c_12 h.symm, show ¬ (ke3 : Int) = 8 from c_19, show ¬ (8 : Int) = ke3 from fun h => c_19 h.symm, show ¬ (ke3 : Int) = 11 from c_26, show ¬ (11 : Int) = ke3 from fun h => c_26 h.symm]) (by decide) ?_
                  refine lv_aload_n hx hb dX6_readInto_108 rfl (lv_at hl 2 rfl) ?_
                  refine va_get (D := D) (ci := 6) (v := .ref hr1) (C := RX6) (T := TX6) (N := 3) hx hb hts iX6 hown hK hP 0 rfl rfl 0 (bl rfl) (hts _ qf_X6_9) (fun _ h => h) rfl dX6_readInto_109 ?_
                  refine lv_iconst (v := iZ 2) hx hb dX6_readInto_112 rfl ?_
                  refine CWV (As := [.int (iZ 2)]) (rest := []) (wc := _) (wr := [(hq, .inr (6, [.ref hr1, .ref hs, .int (iZ lt3)])), (hs, .inr (5, [.ref hN, .ref hf, .ref hg, .int (iZ n3), .int (iZ ni3), .int (iZ lw3), .int (iZ we3)])), (hN, .inl (k 2, 6, .inr (.inl nf3))), (hf, .inl (k 1, 36, .inl f3)), (hg, .inl (k 1, 32, .inl g3))]) hx hb hml hown hts hKK hP hD hS hA (x_fail l D k hr1 tx kw tp ln pl3 en3 ki3 va3 ke3 fk3 fp3 nm3 bf kwf cp 2 (by first | with_reducible assumption | exact ⟨⟨by omega, by omega⟩, ⟨by omega, by omega⟩, ⟨by omega, by omega⟩, by omega, ⟨by omega, by omega⟩, ⟨by omega, by omega⟩, by omega, by omega⟩) hx3) ci_X4_fail qm_X6_47 ⟨Nat.le_of_ble_eq_true rfl, Nat.le_of_ble_eq_true rfl⟩ ⟨Nat.le_of_ble_eq_true rfl, Nat.le_of_ble_eq_true rfl⟩ [1, 2, 3] [0, 4, 5, 6, 7] rfl rfl rfl rfl rfl (dj rfl) 0 rfl rfl rfl hl.1 rfl (Nat.le_of_ble_eq_true rfl) dX6_readInto_113 (fun u_33 H locs hφ hP hD hS => ?_)
                  have p_34 : u_33.1.2.1 = xFl (tX bf ln) cp 2 ∧ u_33.1.2.2 = xPl (tX bf ln) cp := hφ
                  refine W.eq (g2 := F0 m 116 ls [.int (iZ 0)]) rfl ?_
                  refine lv_istore_n (lv' := [(2, .int (iZ 0)), (3, .int (iZ i)), (0, .ref hq), (1, .ref hs)]) hx hb dX6_readInto_116 rfl hl (bl rfl) rfl (fun ls hl => ?_)
                  refine lv_iinc (v := iZ (i + 1)) (lv' := [(3, .int (iZ (i + 1))), (2, .int (iZ 0)), (0, .ref hq), (1, .ref hs)]) hx hb dX6_readInto_117 hl (k := 1) rfl (iZ_add i 1) (by decide) rfl (fun ls hl => ?_)
                  refine lv_goto (tgt := 21) hx hb dX6_readInto_120 rfl ?_
                  exact ih1  0 (i + 1) lt3 n3 ni3 lw3 we3 pl3 en3 ki3 va3 ke3 nm3 u_33.1.2.1 u_33.1.2.2 nf3 f3 g3 cp cF cG cN _ _ _ (by omega) (show 0 ≤ (i + 1) ∧ (i + 1) ≤ 901 from ⟨by omega, by omega⟩) (show 0 = 0 ∨ 0 = 1 from (by omega)) (show 0 ≤ ni3 ∧ ni3 ≤ 8 from ⟨by omega, by omega⟩) (show (lt3 : Int) = 0 ∨ (lt3 : Int) = 1 from (by omega)) (show 0 ≤ lw3 ∧ lw3 ≤ 3 from ⟨by omega, by omega⟩) (show -2147483648 ≤ we3 ∧ we3 < 2147483648 from ⟨by omega, by omega⟩) (show (0 ≤ tp ∧ tp ≤ 900) ∧ (0 ≤ ln ∧ ln ≤ 900) ∧ (0 ≤ pl3 ∧ pl3 ≤ en3) ∧ (en3 ≤ ln) ∧ (0 ≤ ki3 ∧ ki3 ≤ 4) ∧ (-2147483648 ≤ va3 ∧ va3 < 2147483648) ∧ (-1 ≤ ke3 ∧ ke3 ≤ 24) from (by first | with_reducible assumption | exact ⟨⟨by omega, by omega⟩, ⟨by omega, by omega⟩, ⟨by omega, by omega⟩, by omega, ⟨by omega, by omega⟩, ⟨by omega, by omega⟩, by omega, by omega⟩)) (show 0 = 1 → (0 ≤ n3 ∧ n3 ≤ 6) ∧ SKZ f3 n3 ∧ RDX (tX bf ln) cp pl3 en3 ki3 va3 ke3 nm3 ∧ xRw f3 cF 36 ∧ xRw g3 cG (ni3 * 4) ∧ xNs nf3 cN n3 ∧ xAll (tX bf ln) 1000 cu xS0 = xAll (tX bf ln) (Int.toNat (1000 - (i + 1))) cp (n3, ni3, lw3, we3, lt3, cF, cG, cN) ∧ (i + 1) ≤ cp ∧ u_33.1.2.1 = fk ∧ u_33.1.2.2 = fp from (fun h => absurd (show (0 : Int) = 1 from h) (by decide))) (show 0 = 0 → xAll (tX bf ln) 1000 cu xS0 = .inl (u_33.1.2.1, u_33.1.2.2) from (fun _ => (xAll_fault (i := i) ⟨by omega, by omega⟩ hA3 (by omega) (show xPart (tX bf ln) cp (n3, ni3, lw3, we3, lt3, cF, cG, cN) = .inl _ from xPart_0 (show ¬ xKw (tX bf ln) cp = 0 from (by omega)) (show ¬ xKw (tX bf ln) cp = 8 from (by omega)) (show ¬ xKw (tX bf ln) cp = 11 from (by omega)) p_34)))) (hP.sub [0, 5, 6, 7, 1, 2, 3, 4] rfl) (hD.sub [0, 5, 6, 7, 1, 2, 3, 4] rfl rfl) hS (lv_sub hl [0, 1, 2, 3] rfl)
  exact HL1 903 1 0 0 0 0 0 0 pl en ki va ke nm fk fp nf u_2.2.2.1 g cu (fun _ => 0) (fun _ => 0) (fun _ => 0) _ _ _ (by omega) (show 0 ≤ 0 ∧ 0 ≤ 901 from ⟨by omega, by omega⟩) (show 1 = 0 ∨ 1 = 1 from (by omega)) (show 0 ≤ 0 ∧ 0 ≤ 8 from ⟨by omega, by omega⟩) (show (0 : Int) = 0 ∨ (0 : Int) = 1 from (by omega)) (show 0 ≤ 0 ∧ 0 ≤ 3 from ⟨by omega, by omega⟩) (show -2147483648 ≤ 0 ∧ 0 < 2147483648 from ⟨by omega, by omega⟩) (show (0 ≤ tp ∧ tp ≤ 900) ∧ (0 ≤ ln ∧ ln ≤ 900) ∧ (0 ≤ pl ∧ pl ≤ en) ∧ (en ≤ ln) ∧ (0 ≤ ki ∧ ki ≤ 4) ∧ (-2147483648 ≤ va ∧ va < 2147483648) ∧ (-1 ≤ ke ∧ ke ≤ 24) from (by first | with_reducible assumption | exact ⟨⟨by omega, by omega⟩, ⟨by omega, by omega⟩, ⟨by omega, by omega⟩, by omega, ⟨by omega, by omega⟩, ⟨by omega, by omega⟩, by omega, by omega⟩)) (show 1 = 1 → (0 ≤ 0 ∧ 0 ≤ 6) ∧ SKZ u_2.2.2.1 0 ∧ RDX (tX bf ln) cu pl en ki va ke nm ∧ xRw u_2.2.2.1 (fun _ => 0) 36 ∧ xRw g (fun _ => 0) (0 * 4) ∧ xNs nf (fun _ => 0) 0 ∧ xAll (tX bf ln) 1000 cu xS0 = xAll (tX bf ln) (Int.toNat (1000 - 0)) cu (0, 0, 0, 0, 0, (fun _ => 0), (fun _ => 0), (fun _ => 0)) ∧ 0 ≤ cu ∧ fk = fk ∧ fp = fp from (fun _ => ⟨by omega, ⟨fun r h1 h2 => absurd h1 (by omega), fun e h1 h2 => p_3 e (by omega) h2⟩, hrx, (fun e h1 h2 => p_3 e h1 h2), (fun e h1 h2 => absurd h1 (by omega)), (fun k h1 h2 => absurd h1 (by omega)), (show xAll (tX bf ln) 1000 cu xS0 = xAll (tX bf ln) (1000 - 0 : Int).toNat cu (0, 0, 0, 0, 0, (fun _ => 0), (fun _ => 0), (fun _ => 0)) from rfl), by omega, by omega, by omega⟩)) (show 1 = 0 → xAll (tX bf ln) 1000 cu xS0 = .inl (fk, fp) from (fun h => absurd (show (1 : Int) = 0 from h) (by decide))) (hP.sub [0, 1, 2, 3, 4, 5, 6, 7] rfl) (hD.sub [0, 1, 2, 3, 4, 5, 6, 7] rfl rfl) hS (lv_sub hl [0, 1, 2, 3] rfl)
end

section
theorem bA_tX {f : Nat → Int32} {sz x : Int} (hx : 0 ≤ x) : bA f sz x = tX f sz x := by
  unfold bA tX
  by_cases h : x < sz
  · rw [if_pos h, if_pos ⟨hx, h⟩]; exact and255 _
  · rw [if_neg h, if_neg (fun g => h g.2)]
/-- the reference's number of a keyword -/
def pmL : List Int := [0, 3, 4, 5, 6, 7, 8, 9, 1, 10, 11, 2, 12, 13, 14, 15, 16, 17, 18, 19, 23, 24, 20, 21, 22]
def xPm (k : Int) : Int := if k = -1 then -1 else pmL.getD k.toNat (-1)
theorem xPm_inj0 : ∀ i j : Fin 26, xPm ((i.val : Int) - 1) = xPm ((j.val : Int) - 1) → i = j := by decide +kernel
theorem xPm_inj {a b : Int} (ha : -1 ≤ a ∧ a ≤ 24) (hb : -1 ≤ b ∧ b ≤ 24) : xPm a = xPm b ↔ a = b := by
  constructor
  · intro h
    have q := xPm_inj0 ⟨(a + 1).toNat, by omega⟩ ⟨(b + 1).toNat, by omega⟩ (by
      show xPm (((a + 1).toNat : Int) - 1) = xPm (((b + 1).toNat : Int) - 1)
      rw [show ((a + 1).toNat : Int) - 1 = a by omega, show ((b + 1).toNat : Int) - 1 = b by omega]
      exact h)
    have q2 : (a + 1).toNat = (b + 1).toNat := congrArg Fin.val q
    omega
  · intro h; rw [h]
theorem xPm_rg0 : ∀ i : Fin 26, -1 ≤ xPm ((i.val : Int) - 1) ∧ xPm ((i.val : Int) - 1) ≤ 24 := by decide +kernel
theorem xPm_rg {a : Int} (ha : -1 ≤ a ∧ a ≤ 24) : -1 ≤ xPm a ∧ xPm a ≤ 24 := by
  have q := xPm_rg0 ⟨(a + 1).toNat, by omega⟩
  have q : -1 ≤ xPm (((a + 1).toNat : Int) - 1) ∧ xPm (((a + 1).toNat : Int) - 1) ≤ 24 := q
  rw [show ((a + 1).toNat : Int) - 1 = a by omega] at q
  exact q
/-- where the reference's words begin and end -/
def ksL : List Int := [1, 6, 10, 14, 18, 24, 27, 32, 38, 44, 50, 55, 58, 64, 69, 74, 79, 84, 90, 97, 102, 107, 111, 116, 122]
def keL : List Int := [5, 9, 13, 17, 23, 26, 31, 37, 43, 49, 54, 57, 63, 68, 73, 78, 83, 89, 96, 101, 106, 110, 115, 121, 124]
def clL : List Int := [0, 8, 11, 1, 2, 3, 4, 5, 6, 7, 9, 10, 12, 13, 14, 15, 16, 17, 18, 19, 22, 23, 24, 20, 21]
def kS (w : Int) : Int := ksL.getD w.toNat 125
def kE (w : Int) : Int := keL.getD w.toNat 125
def kC (w : Int) : Int := clL.getD w.toNat 0
theorem kk_a0 : ∀ w : Fin 25, gz keyF (kE (w.val : Int)) = 32 ∧ (1 ≤ kS (w.val : Int) ∧ kS (w.val : Int) < kE (w.val : Int)) ∧ kE (w.val : Int) ≤ 124 ∧ kE (w.val : Int) - kS (w.val : Int) ≤ 6 ∧ kS ((w.val : Int) + 1) = kE (w.val : Int) + 1 ∧ xPm (kC (w.val : Int)) = (w.val : Int) ∧ (0 ≤ kC (w.val : Int) ∧ kC (w.val : Int) < 25) ∧ xCd (gz keyF) (kS (w.val : Int)) (kE (w.val : Int) - kS (w.val : Int)).toNat = kwC (kC (w.val : Int)).toNat := by decide +kernel
theorem kk_a {w : Int} (hw : 0 ≤ w ∧ w < 25) : gz keyF (kE w) = 32 ∧ (1 ≤ kS w ∧ kS w < kE w) ∧ kE w ≤ 124 ∧ kE w - kS w ≤ 6 ∧ kS (w + 1) = kE w + 1 ∧ xPm (kC w) = w ∧ (0 ≤ kC w ∧ kC w < 25) ∧ xCd (gz keyF) (kS w) (kE w - kS w).toNat = kwC (kC w).toNat := by
  obtain ⟨n, rfl⟩ := Int.eq_ofNat_of_zero_le hw.1
  exact kk_a0 ⟨n, by omega⟩
theorem kk_b0 : ∀ (w : Fin 25) (d : Fin 6), kS (w.val : Int) + (d.val : Int) < kE (w.val : Int) → 97 ≤ gz keyF (kS (w.val : Int) + (d.val : Int)) ∧ gz keyF (kS (w.val : Int) + (d.val : Int)) ≤ 122 := by decide +kernel
theorem kk_b {w e : Int} (hw : 0 ≤ w ∧ w < 25) (h1 : kS w ≤ e) (h2 : e < kE w) : 97 ≤ gz keyF e ∧ gz keyF e ≤ 122 := by
  have a := kk_a hw
  obtain ⟨n, rfl⟩ := Int.eq_ofNat_of_zero_le hw.1
  have q := kk_b0 ⟨n, by omega⟩ ⟨(e - kS (n : Int)).toNat, by omega⟩
  have q : kS (n : Int) + ((e - kS (n : Int)).toNat : Int) < kE (n : Int) → 97 ≤ gz keyF (kS (n : Int) + ((e - kS (n : Int)).toNat : Int)) ∧ gz keyF (kS (n : Int) + ((e - kS (n : Int)).toNat : Int)) ≤ 122 := q
  rw [show kS (n : Int) + ((e - kS (n : Int)).toNat : Int) = e by omega] at q
  exact q h2
theorem kk_c0 : ∀ j : Fin 25, 0 ≤ xPm (j.val : Int) ∧ xPm (j.val : Int) < 25 ∧ kC (xPm (j.val : Int)) = (j.val : Int) := by decide +kernel
theorem kS25 : kS 25 = 125 := by decide
/-- the word here is the reference's w-th one -/
def xMt (T : Int → Int) (a e w : Int) : Prop := kE w - kS w = e - a ∧ ∀ i : Nat, (i : Int) < e - a → gz keyF (kS w + i) = T (a + i)
theorem kd_sm {T : Int → Int} {p : Int} (h : xKd T p = 1) : smB (xCh T p) := by
  by_cases g : smB (xCh T p)
  · exact g
  · exfalso
    unfold xKd at h
    rw [if_neg g] at h
    split at h
    · omega
    · split at h
      · split at h <;> omega
      · split at h <;> omega
theorem xMt_kw {T : Int → Int} {p w : Int} (hw : 0 ≤ w ∧ w < 25) (hk : xKd T p = 1) (hle : xPl T p ≤ xEn T p) (h : xMt T (xPl T p) (xEn T p) w) : xPm (xKw T p) = w := by
  obtain ⟨a1, a2, a3, a4, a5, a6, a7, a8⟩ := kk_a hw
  obtain ⟨m1, m2⟩ := h
  have e : xNm T p = kwC (kC w).toNat := by
    unfold xNm xCw
    rw [if_pos (by omega), ← a8, m1]
    exact xCd_like _ (fun i hi => (m2 i (by omega)).symm)
  have e2 : xKw T p = kC w := by
    unfold xKw
    rw [if_pos (kd_sm hk), kwu_hit (w := (kC w).toNat) (by omega) e.symm]
    omega
  rw [e2, a6]
theorem xMt_no {T : Int → Int} {p : Int} (hl : xKd T p = 1 → xLet T (xPl T p) (xLn T p)) (hle : xPl T p ≤ xEn T p) (h : xKd T p = 1 → ∀ w : Int, 0 ≤ w → w < 25 → ¬ xMt T (xPl T p) (xEn T p) w) : xPm (xKw T p) = -1 := by
  rcases Classical.em (xKw T p = -1) with c | c
  · rw [c]; rfl
  · exfalso
    have hk := kw_kd c
    have hs := kd_sm hk
    have e : xKw T p = kwu (xNm T p) 25 := by unfold xKw; rw [if_pos hs]
    rcases kwu_or (xNm T p) 25 with q | ⟨j, q1, q2, q3⟩
    · exact c (e.trans q)
    · obtain ⟨b1, b2, b3⟩ := kk_c0 ⟨j, q1⟩
      have b1 : 0 ≤ xPm (j : Int) := b1
      have b2 : xPm (j : Int) < 25 := b2
      have b3 : kC (xPm (j : Int)) = (j : Int) := b3
      obtain ⟨a1, a2, a3, a4, a5, a6, a7, a8⟩ := kk_a ⟨b1, b2⟩
      have p0 : 0 < kwC j := (kw_pos ⟨j, q1⟩).1
      have n0 : xNm T p = xCd T (xPl T p) (xLn T p) := by
        by_cases g : xEn T p - xPl T p ≤ 8
        · unfold xNm xCw; rw [if_pos g]; rfl
        · exfalso
          have : xNm T p = -1 := by unfold xNm xCw; rw [if_neg g]
          omega
      rw [b3, show ((j : Int)).toNat = j by omega, q2, n0] at a8
      obtain ⟨r1, r2⟩ := xCd_inj _ _ (hl hk) (fun i h1 h2 => kk_b ⟨b1, b2⟩ h1 (by omega)) a8.symm
      have r3 : xLn T p = (xEn T p - xPl T p).toNat := rfl
      exact h hk (xPm (j : Int)) b1 b2 ⟨by omega, fun i hi => (r2 i (by omega)).symm⟩
theorem xNm_m1 {T : Int → Int} {p : Int} (h : xLet T (xPl T p) (xLn T p)) (hl : xPl T p ≤ xEn T p) : xNm T p = -1 ↔ 8 < xEn T p - xPl T p := by
  unfold xNm xCw
  split
  · have := xCd_8 (n := (xEn T p - xPl T p).toNat) (by omega) h
    omega
  · omega
/-- the reference's names by their codes -/
def xNr (g : Nat → Int64) (b : Int) (N : Int → Int) (n : Int) : Prop := ∀ k : Int, 0 ≤ k → k < n → xNR (N k) (g (b + k).toNat)
theorem xNr.up {g h : Nat → Int64} {b : Int} {N : Int → Int} {n c e : Int} {v : Int64} (hN : xNr g b N n) (hb : 0 ≤ b ∧ b < 100) (hn : 0 ≤ n ∧ n < 100) (he : e = b + n) (hh : h = vp_updL g (iZ e).toNatClampNeg v) (hv : xNR c v) : xNr h b (xUp N n c) (n + 1) := fun k h1 h2 => by
  rw [hh, zcl ⟨by omega, by omega⟩]
  unfold xUp vp_updL
  by_cases q : k = n
  · rw [if_pos q, if_pos (by omega)]; exact hv
  · rw [if_neg q, if_neg (by omega)]; exact hN k h1 (by omega)
theorem tk_1 {k t : Int} (h : t = tkm k) (hk : 0 ≤ k ∧ k ≤ 4) : (k = 0 ∧ t = 0) ∨ (k = 1 ∧ t = 2) ∨ (k = 2 ∧ t = 3) ∨ (k = 3 ∧ t = 4) ∨ (k = 4 ∧ t = 1) := by
  have := tkm_c k
  omega
end

section
set_option maxHeartbeats 4000000 in
set_option maxRecDepth 100000 in
theorem y_byteAt (l : Launch) (D : va_G) (k : Nat → ClassId) (fs : List Value) (hm : Nat) (Mx : Nat) (Msz : Int) (Xf : Nat → Int32) (x : Int) (f9 : fs[9]? = some (.ref Mx)) (f11 : fs[11]? = some (.int (iZ Msz))) (h9x : 0 ≤ x ∧ x ≤ 5000) (hsz : 0 ≤ Msz ∧ Msz ≤ 900) : RD l yX12_byteAt cX12_byteAt 2 (some .int) 0 D k [.ref hm, .int (iZ x)] [(hm, .inr (12, fs)), (Mx, .inl (k 0, 900, .inl Xf))] (iZ (tX Xf Msz x)) := by
  refine MR (by decide) (Nat.le_of_ble_eq_true rfl) (fun p e s m below meth c ls hx hb hml hr hlocks hts hown hKK hP hl => ?_)
  have hK := hKK.1
  have hl : lv_has ls 2 [(0, .ref hm), (1, .int (iZ x))] := hl
  refine lv_iload_n hx hb dX12_byteAt_0 rfl (lv_at hl 1 rfl) ?_
  refine lv_aload_n hx hb dX12_byteAt_1 rfl (lv_at hl 0 rfl) ?_
  refine va_get (D := D) (ci := 12) (v := .int (iZ Msz)) (C := RX12) (T := TX12) (N := 36) hx hb hts iX12 hown hK hP 0 rfl rfl 11 (bl rfl) (hts _ qf_X12_112) (fun _ h => h) f11 dX12_byteAt_2 ?_
  refine lv_icmp_ge (tgt := 21) hx hb dX12_byteAt_5 rfl (fun c_1 => ?_) (fun c_1 => ?_)
  ·
    have c_1 := (zle (x := iZ Msz) (y := iZ x) rfl rfl ⟨by omega, by omega⟩ ⟨by omega, by omega⟩).mp c_1
    refine lv_iconst (v := iZ (-1)) hx hb dX12_byteAt_21 rfl ?_
    exact ERi hx hb hr hlocks (congrArg iZ (show (-1) = tX Xf Msz x from (by unfold tX; rw [if_neg (by omega)]))) dX12_byteAt_22
  ·
    have c_1 := mt (zle (x := iZ Msz) (y := iZ x) rfl rfl ⟨by omega, by omega⟩ ⟨by omega, by omega⟩).mpr c_1
    refine lv_aload_n hx hb dX12_byteAt_8 rfl (lv_at hl 0 rfl) ?_
    refine va_get (D := D) (ci := 12) (v := .ref Mx) (C := RX12) (T := TX12) (N := 36) hx hb hts iX12 hown hK hP 0 rfl rfl 9 (bl rfl) (hts _ qf_X12_34) (fun _ h => h) f9 dX12_byteAt_9 ?_
    refine lv_iload_n hx hb dX12_byteAt_12 rfl (lv_at hl 1 rfl) ?_
    refine va_bald hx hb hK hP 1 0 rfl rfl (zin (e := x) (n := 900) ⟨by omega, by omega⟩ (bl rfl)) dX12_byteAt_13 ?_
    refine lv_topi (fun x_2 ex_2 => ?_)
    obtain rfl : x_2 = iZ (gz Xf x) := ex_2.trans (gz_eq ⟨by omega, by omega⟩)
    have h_3 := gz_rg Xf x
    refine lv_sipush (v := iZ 255) hx hb dX12_byteAt_14 sip_255 ?_
    refine lv_iand hx hb dX12_byteAt_17 ?_
    refine lv_topi (fun x_5 ex_5 => ?_)
    obtain ⟨z_4, hz_4, hz_4a, hz_4b⟩ := i32_z x_5
    subst hz_4
    refine lv_goto (tgt := 22) hx hb dX12_byteAt_18 rfl ?_
    exact ERi hx hb hr hlocks (by rw [← bA_tX (by omega)]; exact bA_in (by omega) (by assumption)) dX12_byteAt_22
set_option maxHeartbeats 4000000 in
set_option maxRecDepth 100000 in
theorem y_onward (l : Launch) (D : va_G) (k : Nat → ClassId) (hm : Nat) (Ma : Nat) (Mn : Nat) (Ms : Nat) (My : Nat) (Mt : Nat) (Mp : Nat) (Mx : Nat) (Mo : Nat) (Mk : Nat) (Ml : Nat) (Mb : Nat) (Mh : Nat) (Mc : Nat) (Mz : Nat) (Mr : Nat) (Mq : Nat) (Mst : Int) (Mtd : Int) (Msz : Int) (Mtk : Int) (Mfr : Int) (Men : Int) (Mva : Int) (Mfk : Int) (Mfp : Int) (Mfs : Int) (Mse : Int) (Mlt : Int) (Mdp : Int) (Mct : Int) (Mdr : Int) (Mrs : Int) (Mit : Int) (Mmk : Int) (Mtp : Int64) (Mbt : Int64) (Xf : Nat → Int32) (hE : (0 ≤ Men ∧ Men ≤ Msz) ∧ Msz ≤ 900) : WD (σ := ((Int × Int × Int × Int × Int) × (Int64) × (Unit) × (Unit))) l yX12_onward cX12_onward 2 none 1 0 0 D k [.ref hm] [(hm, .inr (12, [.ref Ma, .ref Mn, .int (iZ Mst), .long Mtp, .long Mbt, .ref Ms, .ref My, .ref Mt, .ref Mp, .ref Mx, .int (iZ Mtd), .int (iZ Msz), .int (iZ Mtk), .int (iZ Mfr), .int (iZ Men), .int (iZ Mva), .int (iZ Mfk), .int (iZ Mfp), .int (iZ Mfs), .int (iZ Mse), .int (iZ Mlt), .ref Mo, .int (iZ Mdp), .int (iZ Mct), .ref Mk, .ref Ml, .ref Mb, .ref Mh, .ref Mc, .int (iZ Mdr), .int (iZ Mrs), .ref Mz, .ref Mr, .ref Mq, .int (iZ Mit), .int (iZ Mmk)])), (Mx, .inl (k 0, 900, .inl Xf))] (fun _ => none) (fun u => (RFX (tX Xf Msz) Men u.1.2.2.1 u.1.2.2.2.1 u.1.2.1 u.1.2.2.2.2) ∧ ((0 ≤ (u.1.2.2.1 : Int) ∧ (u.1.2.2.1 : Int) ≤ u.1.2.2.2.1) ∧ ((u.1.2.2.2.1 : Int) ≤ Msz ∧ (Msz : Int) ≤ 900) ∧ (0 ≤ (u.1.2.1 : Int) ∧ (u.1.2.1 : Int) ≤ 4) ∧ ((u.1.2.1 : Int) ≤ 4 * (u.1.2.2.2.1 - u.1.2.2.1)) ∧ (-1 ≤ (u.1.2.2.2.2 : Int) ∧ (u.1.2.2.2.2 : Int) ≤ 100000)) ∧ (Men ≤ u.1.2.2.1)) (fun u => [(hm, .inr (12, [.ref Ma, .ref Mn, .int (iZ Mst), .long Mtp, .long Mbt, .ref Ms, .ref My, .ref Mt, .ref Mp, .ref Mx, .int (iZ Mtd), .int (iZ Msz), .int (iZ u.1.2.1), .int (iZ u.1.2.2.1), .int (iZ u.1.2.2.2.1), .int (iZ u.1.2.2.2.2), .int (iZ Mfk), .int (iZ Mfp), .int (iZ Mfs), .int (iZ Mse), .int (iZ Mlt), .ref Mo, .int (iZ Mdp), .int (iZ Mct), .ref Mk, .ref Ml, .ref Mb, .ref Mh, .ref Mc, .int (iZ Mdr), .int (iZ Mrs), .ref Mz, .ref Mr, .ref Mq, .int (iZ Mit), .int (iZ Mmk)])), (Mx, .inl (k 0, 900, .inl Xf))]) := by
  refine MW (by decide) (Nat.le_of_ble_eq_true rfl) (fun p e s m below meth c ls A hx hb hml hr hlocks hin hts hown hKK hP hD hS hA hl => ?_)
  have hK := hKK.1
  have hl : lv_has ls 2 [(0, .ref hm)] := hl
  have HL1 : ∀ (fu : Nat) (Men1 : Int) (H : Heap) (locs : List Loc) (ls : Array Slot), (Msz + 1 - Men1) < (fu : Int) → (Men ≤ Men1 ∧ Men1 ≤ Msz) → (∀ j : Int, Men ≤ j → j < Men1 → wsB (tX Xf Msz j)) → va_P D vwCl [(hm, .inr (12, [.ref Ma, .ref Mn, .int (iZ Mst), .long Mtp, .long Mbt, .ref Ms, .ref My, .ref Mt, .ref Mp, .ref Mx, .int (iZ Mtd), .int (iZ Msz), .int (iZ Mtk), .int (iZ Mfr), .int (iZ Men1), .int (iZ Mva), .int (iZ Mfk), .int (iZ Mfp), .int (iZ Mfs), .int (iZ Mse), .int (iZ Mlt), .ref Mo, .int (iZ Mdp), .int (iZ Mct), .ref Mk, .ref Ml, .ref Mb, .ref Mh, .ref Mc, .int (iZ Mdr), .int (iZ Mrs), .ref Mz, .ref Mr, .ref Mq, .int (iZ Mit), .int (iZ Mmk)])), (Mx, .inl (k 0, 900, .inl Xf))] H → va_D A [(hm, .inr (12, [.ref Ma, .ref Mn, .int (iZ Mst), .long Mtp, .long Mbt, .ref Ms, .ref My, .ref Mt, .ref Mp, .ref Mx, .int (iZ Mtd), .int (iZ Msz), .int (iZ Mtk), .int (iZ Mfr), .int (iZ Men1), .int (iZ Mva), .int (iZ Mfk), .int (iZ Mfp), .int (iZ Mfs), .int (iZ Mse), .int (iZ Mlt), .ref Mo, .int (iZ Mdp), .int (iZ Mct), .ref Mk, .ref Ml, .ref Mb, .ref Mh, .ref Mc, .int (iZ Mdr), .int (iZ Mrs), .ref Mz, .ref Mr, .ref Mq, .int (iZ Mit), .int (iZ Mmk)])), (Mx, .inl (k 0, 900, .inl Xf))] → va_S A s.heap H locs → lv_has ls 2 [(0, .ref hm)] → W p l e (rj 1 0 0) s m [.ref hm].toArray below meth c H locs 0 0 (MQ below (QW (σ := ((Int × Int × Int × Int × Int) × (Int64) × (Unit) × (Unit))) (fun _ => none) (fun u => (RFX (tX Xf Msz) Men u.1.2.2.1 u.1.2.2.2.1 u.1.2.1 u.1.2.2.2.2) ∧ ((0 ≤ (u.1.2.2.1 : Int) ∧ (u.1.2.2.1 : Int) ≤ u.1.2.2.2.1) ∧ ((u.1.2.2.2.1 : Int) ≤ Msz ∧ (Msz : Int) ≤ 900) ∧ (0 ≤ (u.1.2.1 : Int) ∧ (u.1.2.1 : Int) ≤ 4) ∧ ((u.1.2.1 : Int) ≤ 4 * (u.1.2.2.2.1 - u.1.2.2.1)) ∧ (-1 ≤ (u.1.2.2.2.2 : Int) ∧ (u.1.2.2.2.2 : Int) ≤ 100000)) ∧ (Men ≤ u.1.2.2.1)) (fun u => [(hm, .inr (12, [.ref Ma, .ref Mn, .int (iZ Mst), .long Mtp, .long Mbt, .ref Ms, .ref My, .ref Mt, .ref Mp, .ref Mx, .int (iZ Mtd), .int (iZ Msz), .int (iZ u.1.2.1), .int (iZ u.1.2.2.1), .int (iZ u.1.2.2.2.1), .int (iZ u.1.2.2.2.2), .int (iZ Mfk), .int (iZ Mfp), .int (iZ Mfs), .int (iZ Mse), .int (iZ Mlt), .ref Mo, .int (iZ Mdp), .int (iZ Mct), .ref Mk, .ref Ml, .ref Mb, .ref Mh, .ref Mc, .int (iZ Mdr), .int (iZ Mrs), .ref Mz, .ref Mr, .ref Mq, .int (iZ Mit), .int (iZ Mmk)])), (Mx, .inl (k 0, 900, .inl Xf))]) D A) [.ref hm].toArray s 0 0 A) (F0 m 0 ls []) := by
    intro fu
    induction fu with
    | zero => intro Men1 H locs ls hμ1 he1 hrun hP hD hS hl; exact absurd hμ1 (by omega)
    | succ fu ih1 =>
      intro Men1 H locs ls hμ1 he1 hrun hP hD hS hl
      refine lv_aload_n hx hb dX12_onward_0 rfl (lv_at hl 0 rfl) ?_
      refine lv_aload_n hx hb dX12_onward_1 rfl (lv_at hl 0 rfl) ?_
      refine va_get (D := D) (ci := 12) (v := .int (iZ Men1)) (C := RX12) (T := TX12) (N := 36) hx hb hts iX12 hown hK hP 0 rfl rfl 14 (bl rfl) (hts _ qf_X12_115) (fun _ h => h) rfl dX12_onward_2 ?_
      refine CRV (As := [.int (iZ Men1)]) (rest := []) hx hb hml hown hts hKK hP (y_byteAt l D k ([.ref Ma, .ref Mn, .int (iZ Mst), .long Mtp, .long Mbt, .ref Ms, .ref My, .ref Mt, .ref Mp, .ref Mx, .int (iZ Mtd), .int (iZ Msz), .int (iZ Mtk), .int (iZ Mfr), .int (iZ Men1), .int (iZ Mva), .int (iZ Mfk), .int (iZ Mfp), .int (iZ Mfs), .int (iZ Mse), .int (iZ Mlt), .ref Mo, .int (iZ Mdp), .int (iZ Mct), .ref Mk, .ref Ml, .ref Mb, .ref Mh, .ref Mc, .int (iZ Mdr), .int (iZ Mrs), .ref Mz, .ref Mr, .ref Mq, .int (iZ Mit), .int (iZ Mmk)]) hm Mx Msz Xf Men1 rfl rfl ⟨by omega, by omega⟩ ⟨by omega, by omega⟩) ci_X12_byteAt qm_X12_118 ⟨Nat.le_of_ble_eq_true rfl, Nat.le_of_ble_eq_true rfl⟩ ⟨Nat.le_of_ble_eq_true rfl, Nat.le_of_ble_eq_true rfl⟩ 0 rfl rfl rfl hl.1 rfl (Nat.le_of_ble_eq_true rfl) dX12_onward_5 ?_
      have hb_h_1 := tX_rg Xf Msz Men1 (by omega)
      refine lv_bipush (v := iZ 32) hx hb dX12_onward_8 bip_32 ?_
      refine lv_icmp_eq (tgt := 26) hx hb dX12_onward_10 rfl (fun c_2 => ?_) (fun c_2 => ?_)
      ·
        have c_2 := (zeq (x := iZ (tX Xf Msz Men1)) (y := iZ 32) rfl rfl ⟨by omega, by omega⟩ wn_32).mp c_2
        refine lv_aload_n hx hb dX12_onward_26 rfl (lv_at hl 0 rfl) ?_
        refine lv_dup hx hb dX12_onward_27 rfl ?_
        refine va_get (D := D) (ci := 12) (v := .int (iZ Men1)) (C := RX12) (T := TX12) (N := 36) hx hb hts iX12 hown hK hP 0 rfl rfl 14 (bl rfl) (hts _ qf_X12_115) (fun _ h => h) rfl dX12_onward_28 ?_
        refine lv_iconst (v := iZ 1) hx hb dX12_onward_31 rfl ?_
        refine lv_iadd hx hb dX12_onward_32 ?_
        refine lv_topi (fun x_3 ex_3 => ?_)
        obtain rfl : x_3 = iZ (Men1 + 1) := ex_3.trans (iZ_add Men1 1)
        refine va_put (D := D) (ci := 12) (v := .int (iZ (Men1 + 1))) (ty := .int) (C := RX12) (T := TX12) (N := 36) hx hb hts iX12 tyX12 tyX12_ok nmX12 hown hK hP hD hS 0 rfl rfl 14 (bl rfl) (hts _ qf_X12_115) (fun _ h => h) rfl (by decide +kernel) rfl rfl (Nat.le_of_ble_eq_true rfl) dX12_onward_33 (fun H locs hP hD hS => ?_)
        refine lv_goto (tgt := 0) hx hb dX12_onward_36 rfl ?_
        exact ih1  (Men1 + 1) _ _ _ (by omega) (show Men ≤ (Men1 + 1) ∧ (Men1 + 1) ≤ Msz from ⟨by omega, by omega⟩) (show ∀ j : Int, Men ≤ j → j < (Men1 + 1) → wsB (tX Xf Msz j) from (rn_step hrun (show tX Xf Msz Men1 = 32 ∨ tX Xf Msz Men1 = 10 from (by omega)))) (hP.sub [0, 1] rfl) (hD.sub [0, 1] rfl rfl) hS (lv_sub hl [0] rfl)
      ·
        have c_2 := mt (zeq (x := iZ (tX Xf Msz Men1)) (y := iZ 32) rfl rfl ⟨by omega, by omega⟩ wn_32).mpr c_2
        refine lv_aload_n hx hb dX12_onward_13 rfl (lv_at hl 0 rfl) ?_
        refine lv_aload_n hx hb dX12_onward_14 rfl (lv_at hl 0 rfl) ?_
        refine va_get (D := D) (ci := 12) (v := .int (iZ Men1)) (C := RX12) (T := TX12) (N := 36) hx hb hts iX12 hown hK hP 0 rfl rfl 14 (bl rfl) (hts _ qf_X12_115) (fun _ h => h) rfl dX12_onward_15 ?_
        refine CRV (As := [.int (iZ Men1)]) (rest := []) hx hb hml hown hts hKK hP (y_byteAt l D k ([.ref Ma, .ref Mn, .int (iZ Mst), .long Mtp, .long Mbt, .ref Ms, .ref My, .ref Mt, .ref Mp, .ref Mx, .int (iZ Mtd), .int (iZ Msz), .int (iZ Mtk), .int (iZ Mfr), .int (iZ Men1), .int (iZ Mva), .int (iZ Mfk), .int (iZ Mfp), .int (iZ Mfs), .int (iZ Mse), .int (iZ Mlt), .ref Mo, .int (iZ Mdp), .int (iZ Mct), .ref Mk, .ref Ml, .ref Mb, .ref Mh, .ref Mc, .int (iZ Mdr), .int (iZ Mrs), .ref Mz, .ref Mr, .ref Mq, .int (iZ Mit), .int (iZ Mmk)]) hm Mx Msz Xf Men1 rfl rfl ⟨by omega, by omega⟩ ⟨by omega, by omega⟩) ci_X12_byteAt qm_X12_118 ⟨Nat.le_of_ble_eq_true rfl, Nat.le_of_ble_eq_true rfl⟩ ⟨Nat.le_of_ble_eq_true rfl, Nat.le_of_ble_eq_true rfl⟩ 0 rfl rfl rfl hl.1 rfl (Nat.le_of_ble_eq_true rfl) dX12_onward_18 ?_
        have hb_h_4 := tX_rg Xf Msz Men1 (by omega)
        refine lv_bipush (v := iZ 10) hx hb dX12_onward_21 bip_10 ?_
        refine lv_icmp_ne (tgt := 39) hx hb dX12_onward_23 rfl (fun c_5 => ?_) (fun c_5 => ?_)
        ·
          have c_5 := mt (zeq (x := iZ (tX Xf Msz Men1)) (y := iZ 10) rfl rfl ⟨by omega, by omega⟩ wn_10).mpr c_5
          have hpl : Men1 = xPl (tX Xf Msz) Men := rnF_eq ⟨by omega, hrun, (show ¬ (tX Xf Msz Men1 = 32 ∨ tX Xf Msz Men1 = 10) from (by omega))⟩
          refine lv_aload_n hx hb dX12_onward_39 rfl (lv_at hl 0 rfl) ?_
          refine lv_aload_n hx hb dX12_onward_40 rfl (lv_at hl 0 rfl) ?_
          refine va_get (D := D) (ci := 12) (v := .int (iZ Men1)) (C := RX12) (T := TX12) (N := 36) hx hb hts iX12 hown hK hP 0 rfl rfl 14 (bl rfl) (hts _ qf_X12_115) (fun _ h => h) rfl dX12_onward_41 ?_
          refine va_put (D := D) (ci := 12) (v := .int (iZ Men1)) (ty := .int) (C := RX12) (T := TX12) (N := 36) hx hb hts iX12 tyX12 tyX12_ok nmX12 hown hK hP hD hS 0 rfl rfl 13 (bl rfl) (hts _ qf_X12_121) (fun _ h => h) rfl (by decide +kernel) rfl rfl (Nat.le_of_ble_eq_true rfl) dX12_onward_44 (fun H locs hP hD hS => ?_)
          refine lv_aload_n hx hb dX12_onward_47 rfl (lv_at hl 0 rfl) ?_
          refine lv_aload_n hx hb dX12_onward_48 rfl (lv_at hl 0 rfl) ?_
          refine va_get (D := D) (ci := 12) (v := .int (iZ Men1)) (C := RX12) (T := TX12) (N := 36) hx hb hts iX12 hown hK hP 0 rfl rfl 14 (bl rfl) (hts _ qf_X12_115) (fun _ h => h) rfl dX12_onward_49 ?_
          refine CRV (As := [.int (iZ Men1)]) (rest := []) hx hb hml hown hts hKK hP (y_byteAt l D k ([.ref Ma, .ref Mn, .int (iZ Mst), .long Mtp, .long Mbt, .ref Ms, .ref My, .ref Mt, .ref Mp, .ref Mx, .int (iZ Mtd), .int (iZ Msz), .int (iZ Mtk), .int (iZ Men1), .int (iZ Men1), .int (iZ Mva), .int (iZ Mfk), .int (iZ Mfp), .int (iZ Mfs), .int (iZ Mse), .int (iZ Mlt), .ref Mo, .int (iZ Mdp), .int (iZ Mct), .ref Mk, .ref Ml, .ref Mb, .ref Mh, .ref Mc, .int (iZ Mdr), .int (iZ Mrs), .ref Mz, .ref Mr, .ref Mq, .int (iZ Mit), .int (iZ Mmk)]) hm Mx Msz Xf Men1 rfl rfl ⟨by omega, by omega⟩ ⟨by omega, by omega⟩) ci_X12_byteAt qm_X12_118 ⟨Nat.le_of_ble_eq_true rfl, Nat.le_of_ble_eq_true rfl⟩ ⟨Nat.le_of_ble_eq_true rfl, Nat.le_of_ble_eq_true rfl⟩ 0 rfl rfl rfl hl.1 rfl (Nat.le_of_ble_eq_true rfl) dX12_onward_52 ?_
          have hb_h_6 := tX_rg Xf Msz Men1 (by omega)
          refine lv_istore_n (lv' := [(1, .int (iZ (tX Xf Msz Men1))), (0, .ref hm)]) hx hb dX12_onward_55 rfl hl (bl rfl) rfl (fun ls hl => ?_)
          refine lv_aload_n hx hb dX12_onward_56 rfl (lv_at hl 1 rfl) ?_
          refine lv_iload_n hx hb dX12_onward_57 rfl (lv_at hl 0 rfl) ?_
          refine va_put (D := D) (ci := 12) (v := .int (iZ (tX Xf Msz Men1))) (ty := .int) (C := RX12) (T := TX12) (N := 36) hx hb hts iX12 tyX12 tyX12_ok nmX12 hown hK hP hD hS 0 rfl rfl 15 (bl rfl) (hts _ qf_X12_124) (fun _ h => h) rfl (by decide +kernel) rfl rfl (Nat.le_of_ble_eq_true rfl) dX12_onward_58 (fun H locs hP hD hS => ?_)
          refine lv_iload_n hx hb dX12_onward_61 rfl (lv_at hl 0 rfl) ?_
          refine lv_iconst (v := iZ (-1)) hx hb dX12_onward_62 rfl ?_
          refine lv_icmp_ne (tgt := 74) hx hb dX12_onward_63 rfl (fun c_7 => ?_) (fun c_7 => ?_)
          ·
            have c_7 := mt (zeq (x := iZ (tX Xf Msz Men1)) (y := iZ (-1)) rfl rfl ⟨by omega, by omega⟩ wn_m1).mpr c_7
            refine lv_iload_n hx hb dX12_onward_74 rfl (lv_at hl 0 rfl) ?_
            refine CPS (As := [.int (iZ (tX Xf Msz Men1))]) (rest := []) hx hb hml hown hts hKK (hP.sub (ws' := []) [] rfl) (m_isSmall l D k (tX Xf Msz Men1) ⟨by omega, by omega⟩) ci_X12_isSmall qm_X12_130 ⟨Nat.le_of_ble_eq_true rfl, Nat.le_of_ble_eq_true rfl⟩ ⟨Nat.le_of_ble_eq_true rfl, Nat.le_of_ble_eq_true rfl⟩ rfl hl.1 rfl (Nat.le_of_ble_eq_true rfl) dX12_onward_75 (fun z_8 hz_8 => ?_)
            rcases hz_8 with ⟨qz_8, hz_8⟩ | ⟨qz_8, hz_8⟩
            ·
              subst qz_8
              refine lv_if_eq (tgt := 116) hx hb dX12_onward_78 rfl (fun c => absurd c (by decide)) (fun _ => ?_)
              have HL2 : ∀ (fu : Nat) (Men2 : Int) (H : Heap) (locs : List Loc) (ls : Array Slot), (Msz + 1 - Men2) < (fu : Int) → (Men1 ≤ Men2 ∧ Men2 ≤ Msz) → (∀ j : Int, Men1 ≤ j → j < Men2 → smB (tX Xf Msz j)) → va_P D vwCl [(hm, .inr (12, [.ref Ma, .ref Mn, .int (iZ Mst), .long Mtp, .long Mbt, .ref Ms, .ref My, .ref Mt, .ref Mp, .ref Mx, .int (iZ Mtd), .int (iZ Msz), .int (iZ Mtk), .int (iZ Men1), .int (iZ Men2), .int (iZ (tX Xf Msz Men1)), .int (iZ Mfk), .int (iZ Mfp), .int (iZ Mfs), .int (iZ Mse), .int (iZ Mlt), .ref Mo, .int (iZ Mdp), .int (iZ Mct), .ref Mk, .ref Ml, .ref Mb, .ref Mh, .ref Mc, .int (iZ Mdr), .int (iZ Mrs), .ref Mz, .ref Mr, .ref Mq, .int (iZ Mit), .int (iZ Mmk)])), (Mx, .inl (k 0, 900, .inl Xf))] H → va_D A [(hm, .inr (12, [.ref Ma, .ref Mn, .int (iZ Mst), .long Mtp, .long Mbt, .ref Ms, .ref My, .ref Mt, .ref Mp, .ref Mx, .int (iZ Mtd), .int (iZ Msz), .int (iZ Mtk), .int (iZ Men1), .int (iZ Men2), .int (iZ (tX Xf Msz Men1)), .int (iZ Mfk), .int (iZ Mfp), .int (iZ Mfs), .int (iZ Mse), .int (iZ Mlt), .ref Mo, .int (iZ Mdp), .int (iZ Mct), .ref Mk, .ref Ml, .ref Mb, .ref Mh, .ref Mc, .int (iZ Mdr), .int (iZ Mrs), .ref Mz, .ref Mr, .ref Mq, .int (iZ Mit), .int (iZ Mmk)])), (Mx, .inl (k 0, 900, .inl Xf))] → va_S A s.heap H locs → lv_has ls 2 [(1, .int (iZ (tX Xf Msz Men1))), (0, .ref hm)] → W p l e (rj 1 0 0) s m [.ref hm].toArray below meth c H locs 0 0 (MQ below (QW (σ := ((Int × Int × Int × Int × Int) × (Int64) × (Unit) × (Unit))) (fun _ => none) (fun u => (RFX (tX Xf Msz) Men u.1.2.2.1 u.1.2.2.2.1 u.1.2.1 u.1.2.2.2.2) ∧ ((0 ≤ (u.1.2.2.1 : Int) ∧ (u.1.2.2.1 : Int) ≤ u.1.2.2.2.1) ∧ ((u.1.2.2.2.1 : Int) ≤ Msz ∧ (Msz : Int) ≤ 900) ∧ (0 ≤ (u.1.2.1 : Int) ∧ (u.1.2.1 : Int) ≤ 4) ∧ ((u.1.2.1 : Int) ≤ 4 * (u.1.2.2.2.1 - u.1.2.2.1)) ∧ (-1 ≤ (u.1.2.2.2.2 : Int) ∧ (u.1.2.2.2.2 : Int) ≤ 100000)) ∧ (Men ≤ u.1.2.2.1)) (fun u => [(hm, .inr (12, [.ref Ma, .ref Mn, .int (iZ Mst), .long Mtp, .long Mbt, .ref Ms, .ref My, .ref Mt, .ref Mp, .ref Mx, .int (iZ Mtd), .int (iZ Msz), .int (iZ u.1.2.1), .int (iZ u.1.2.2.1), .int (iZ u.1.2.2.2.1), .int (iZ u.1.2.2.2.2), .int (iZ Mfk), .int (iZ Mfp), .int (iZ Mfs), .int (iZ Mse), .int (iZ Mlt), .ref Mo, .int (iZ Mdp), .int (iZ Mct), .ref Mk, .ref Ml, .ref Mb, .ref Mh, .ref Mc, .int (iZ Mdr), .int (iZ Mrs), .ref Mz, .ref Mr, .ref Mq, .int (iZ Mit), .int (iZ Mmk)])), (Mx, .inl (k 0, 900, .inl Xf))]) D A) [.ref hm].toArray s 0 0 A) (F0 m 81 ls []) := by
                intro fu
                induction fu with
                | zero => intro Men2 H locs ls hμ2 he2 hrun2 hP hD hS hl; exact absurd hμ2 (by omega)
                | succ fu ih2 =>
                  intro Men2 H locs ls hμ2 he2 hrun2 hP hD hS hl
                  refine lv_aload_n hx hb dX12_onward_81 rfl (lv_at hl 1 rfl) ?_
                  refine lv_aload_n hx hb dX12_onward_82 rfl (lv_at hl 1 rfl) ?_
                  refine va_get (D := D) (ci := 12) (v := .int (iZ Men2)) (C := RX12) (T := TX12) (N := 36) hx hb hts iX12 hown hK hP 0 rfl rfl 14 (bl rfl) (hts _ qf_X12_115) (fun _ h => h) rfl dX12_onward_83 ?_
                  refine CRV (As := [.int (iZ Men2)]) (rest := []) hx hb hml hown hts hKK hP (y_byteAt l D k ([.ref Ma, .ref Mn, .int (iZ Mst), .long Mtp, .long Mbt, .ref Ms, .ref My, .ref Mt, .ref Mp, .ref Mx, .int (iZ Mtd), .int (iZ Msz), .int (iZ Mtk), .int (iZ Men1), .int (iZ Men2), .int (iZ (tX Xf Msz Men1)), .int (iZ Mfk), .int (iZ Mfp), .int (iZ Mfs), .int (iZ Mse), .int (iZ Mlt), .ref Mo, .int (iZ Mdp), .int (iZ Mct), .ref Mk, .ref Ml, .ref Mb, .ref Mh, .ref Mc, .int (iZ Mdr), .int (iZ Mrs), .ref Mz, .ref Mr, .ref Mq, .int (iZ Mit), .int (iZ Mmk)]) hm Mx Msz Xf Men2 rfl rfl ⟨by omega, by omega⟩ ⟨by omega, by omega⟩) ci_X12_byteAt qm_X12_118 ⟨Nat.le_of_ble_eq_true rfl, Nat.le_of_ble_eq_true rfl⟩ ⟨Nat.le_of_ble_eq_true rfl, Nat.le_of_ble_eq_true rfl⟩ 0 rfl rfl rfl hl.1 rfl (Nat.le_of_ble_eq_true rfl) dX12_onward_86 ?_
                  have hb_h_10 := tX_rg Xf Msz Men2 (by omega)
                  refine CPS (As := [.int (iZ (tX Xf Msz Men2))]) (rest := []) hx hb hml hown hts hKK (hP.sub (ws' := []) [] rfl) (m_isSmall l D k (tX Xf Msz Men2) ⟨by omega, by omega⟩) ci_X12_isSmall qm_X12_130 ⟨Nat.le_of_ble_eq_true rfl, Nat.le_of_ble_eq_true rfl⟩ ⟨Nat.le_of_ble_eq_true rfl, Nat.le_of_ble_eq_true rfl⟩ rfl hl.1 rfl (Nat.le_of_ble_eq_true rfl) dX12_onward_89 (fun z_11 hz_11 => ?_)
                  rcases hz_11 with ⟨qz_11, hz_11⟩ | ⟨qz_11, hz_11⟩
                  ·
                    subst qz_11
                    refine lv_if_eq (tgt := 108) hx hb dX12_onward_92 rfl (fun c => absurd c (by decide)) (fun _ => ?_)
                    refine lv_aload_n hx hb dX12_onward_95 rfl (lv_at hl 1 rfl) ?_
                    refine lv_dup hx hb dX12_onward_96 rfl ?_
                    refine va_get (D := D) (ci := 12) (v := .int (iZ Men2)) (C := RX12) (T := TX12) (N := 36) hx hb hts iX12 hown hK hP 0 rfl rfl 14 (bl rfl) (hts _ qf_X12_115) (fun _ h => h) rfl dX12_onward_97 ?_
                    refine lv_iconst (v := iZ 1) hx hb dX12_onward_100 rfl ?_
                    refine lv_iadd hx hb dX12_onward_101 ?_
                    refine lv_topi (fun x_13 ex_13 => ?_)
                    obtain rfl : x_13 = iZ (Men2 + 1) := ex_13.trans (iZ_add Men2 1)
                    refine va_put (D := D) (ci := 12) (v := .int (iZ (Men2 + 1))) (ty := .int) (C := RX12) (T := TX12) (N := 36) hx hb hts iX12 tyX12 tyX12_ok nmX12 hown hK hP hD hS 0 rfl rfl 14 (bl rfl) (hts _ qf_X12_115) (fun _ h => h) rfl (by decide +kernel) rfl rfl (Nat.le_of_ble_eq_true rfl) dX12_onward_102 (fun H locs hP hD hS => ?_)
                    refine lv_goto (tgt := 81) hx hb dX12_onward_105 rfl ?_
                    exact ih2  (Men2 + 1) _ _ _ (by omega) (show Men1 ≤ (Men2 + 1) ∧ (Men2 + 1) ≤ Msz from ⟨by omega, by omega⟩) (show ∀ j : Int, Men1 ≤ j → j < (Men2 + 1) → smB (tX Xf Msz j) from (rn_step hrun2 (show 97 ≤ tX Xf Msz Men2 ∧ tX Xf Msz Men2 ≤ 122 from (by omega)))) (hP.sub [0, 1] rfl) (hD.sub [0, 1] rfl rfl) hS (lv_sub hl [0, 1] rfl)
                  ·
                    subst qz_11
                    refine lv_if_eq (tgt := 108) hx hb dX12_onward_92 rfl (fun _ => ?_) (fun c => absurd (by decide) c)
                    refine lv_aload_n hx hb dX12_onward_108 rfl (lv_at hl 1 rfl) ?_
                    refine lv_iconst (v := iZ 2) hx hb dX12_onward_109 rfl ?_
                    refine va_put (D := D) (ci := 12) (v := .int (iZ 2)) (ty := .int) (C := RX12) (T := TX12) (N := 36) hx hb hts iX12 tyX12 tyX12_ok nmX12 hown hK hP hD hS 0 rfl rfl 12 (bl rfl) (hts _ qf_X12_127) (fun _ h => h) rfl (by decide +kernel) rfl rfl (Nat.le_of_ble_eq_true rfl) dX12_onward_110 (fun H locs hP hD hS => ?_)
                    refine lv_goto (tgt := 251) hx hb dX12_onward_113 rfl ?_
                    have hsm : smB (tX Xf Msz Men1) := (show 97 ≤ tX Xf Msz Men1 ∧ tX Xf Msz Men1 ≤ 122 from (by omega))
                    have hr1 : isRn smB (tX Xf Msz) Men1 Men2 := ⟨by omega, hrun2, (show ¬ (97 ≤ tX Xf Msz Men2 ∧ tX Xf Msz Men2 ≤ 122) from (by omega))⟩
                    have tk := tk_word hpl hsm hr1
                    have hlt9 := rn_lt hr1 hsm
                    exact EWv hx hb hr hlocks hS ((0, 2, Men1, Men2, (tX Xf Msz Men1)), 0, (), ()) rfl ⟨(show RFX (tX Xf Msz) Men Men1 Men2 2 (tX Xf Msz Men1) from ⟨⟨by omega, hpl⟩, tk.1.symm, (by rw [tk.2.1]; rfl), (fun h => absurd h (by omega)), (fun _ => by unfold xLn; rw [tk.1, ← hpl]; exact xLet_rn hr1), Or.inr (rn_lt hr1 hsm)⟩), (show (0 ≤ (Men1 : Int) ∧ (Men1 : Int) ≤ Men2) ∧ ((Men2 : Int) ≤ Msz ∧ (Msz : Int) ≤ 900) ∧ (0 ≤ (2 : Int) ∧ (2 : Int) ≤ 4) ∧ ((2 : Int) ≤ 4 * (Men2 - Men1)) ∧ (-1 ≤ ((tX Xf Msz Men1) : Int) ∧ ((tX Xf Msz Men1) : Int) ≤ 100000) from (by first | with_reducible assumption | exact ⟨⟨by omega, by omega⟩, ⟨by omega, by omega⟩, ⟨by omega, by omega⟩, by omega, by omega, by omega⟩)), (show Men ≤ Men1 from (by omega))⟩ (hP.sub [0, 1] rfl) (hD.sub [0, 1] rfl rfl) dX12_onward_251
              exact HL2 902 Men1 _ _ _ (by omega) (show Men1 ≤ Men1 ∧ Men1 ≤ Msz from ⟨by omega, by omega⟩) (show ∀ j : Int, Men1 ≤ j → j < Men1 → smB (tX Xf Msz j) from rn_none) (hP.sub [0, 1] rfl) (hD.sub [0, 1] rfl rfl) hS (lv_sub hl [0, 1] rfl)
            ·
              subst qz_8
              refine lv_if_eq (tgt := 116) hx hb dX12_onward_78 rfl (fun _ => ?_) (fun c => absurd (by decide) c)
              refine lv_iload_n hx hb dX12_onward_116 rfl (lv_at hl 0 rfl) ?_
              refine CPS (As := [.int (iZ (tX Xf Msz Men1))]) (rest := []) hx hb hml hown hts hKK (hP.sub (ws' := []) [] rfl) (m_isDigit l D k (tX Xf Msz Men1) ⟨by omega, by omega⟩) ci_X12_isDigit qm_X12_133 ⟨Nat.le_of_ble_eq_true rfl, Nat.le_of_ble_eq_true rfl⟩ ⟨Nat.le_of_ble_eq_true rfl, Nat.le_of_ble_eq_true rfl⟩ rfl hl.1 rfl (Nat.le_of_ble_eq_true rfl) dX12_onward_117 (fun z_16 hz_16 => ?_)
              rcases hz_16 with ⟨qz_16, hz_16⟩ | ⟨qz_16, hz_16⟩
              ·
                subst qz_16
                refine lv_if_eq (tgt := 208) hx hb dX12_onward_120 rfl (fun c => absurd c (by decide)) (fun _ => ?_)
                refine lv_aload_n hx hb dX12_onward_123 rfl (lv_at hl 1 rfl) ?_
                refine lv_iconst (v := iZ 0) hx hb dX12_onward_124 rfl ?_
                refine va_put (D := D) (ci := 12) (v := .int (iZ 0)) (ty := .int) (C := RX12) (T := TX12) (N := 36) hx hb hts iX12 tyX12 tyX12_ok nmX12 hown hK hP hD hS 0 rfl rfl 15 (bl rfl) (hts _ qf_X12_124) (fun _ h => h) rfl (by decide +kernel) rfl rfl (Nat.le_of_ble_eq_true rfl) dX12_onward_125 (fun H locs hP hD hS => ?_)
                have HL3 : ∀ (fu : Nat) (Men3 : Int) (Mva3 : Int) (H : Heap) (locs : List Loc) (ls : Array Slot), (Msz + 1 - Men3) < (fu : Int) → (Men1 ≤ Men3 ∧ Men3 ≤ Msz) → (∀ j : Int, Men1 ≤ j → j < Men3 → dgB (tX Xf Msz j)) → (Men3 - Men1 ≤ 4 → Mva3 = xDv (tX Xf Msz) Men1 (Men3 - Men1).toNat) → (0 ≤ Mva3 ∧ Mva3 ≤ 100000 ∧ (Men3 - Men1 ≤ 3 → Mva3 ≤ 999) ∧ (Men3 - Men1 ≤ 2 → Mva3 ≤ 99) ∧ (Men3 - Men1 ≤ 1 → Mva3 ≤ 9) ∧ (Men3 - Men1 ≤ 0 → Mva3 ≤ 0)) → va_P D vwCl [(hm, .inr (12, [.ref Ma, .ref Mn, .int (iZ Mst), .long Mtp, .long Mbt, .ref Ms, .ref My, .ref Mt, .ref Mp, .ref Mx, .int (iZ Mtd), .int (iZ Msz), .int (iZ Mtk), .int (iZ Men1), .int (iZ Men3), .int (iZ Mva3), .int (iZ Mfk), .int (iZ Mfp), .int (iZ Mfs), .int (iZ Mse), .int (iZ Mlt), .ref Mo, .int (iZ Mdp), .int (iZ Mct), .ref Mk, .ref Ml, .ref Mb, .ref Mh, .ref Mc, .int (iZ Mdr), .int (iZ Mrs), .ref Mz, .ref Mr, .ref Mq, .int (iZ Mit), .int (iZ Mmk)])), (Mx, .inl (k 0, 900, .inl Xf))] H → va_D A [(hm, .inr (12, [.ref Ma, .ref Mn, .int (iZ Mst), .long Mtp, .long Mbt, .ref Ms, .ref My, .ref Mt, .ref Mp, .ref Mx, .int (iZ Mtd), .int (iZ Msz), .int (iZ Mtk), .int (iZ Men1), .int (iZ Men3), .int (iZ Mva3), .int (iZ Mfk), .int (iZ Mfp), .int (iZ Mfs), .int (iZ Mse), .int (iZ Mlt), .ref Mo, .int (iZ Mdp), .int (iZ Mct), .ref Mk, .ref Ml, .ref Mb, .ref Mh, .ref Mc, .int (iZ Mdr), .int (iZ Mrs), .ref Mz, .ref Mr, .ref Mq, .int (iZ Mit), .int (iZ Mmk)])), (Mx, .inl (k 0, 900, .inl Xf))] → va_S A s.heap H locs → lv_has ls 2 [(1, .int (iZ (tX Xf Msz Men1))), (0, .ref hm)] → W p l e (rj 1 0 0) s m [.ref hm].toArray below meth c H locs 0 0 (MQ below (QW (σ := ((Int × Int × Int × Int × Int) × (Int64) × (Unit) × (Unit))) (fun _ => none) (fun u => (RFX (tX Xf Msz) Men u.1.2.2.1 u.1.2.2.2.1 u.1.2.1 u.1.2.2.2.2) ∧ ((0 ≤ (u.1.2.2.1 : Int) ∧ (u.1.2.2.1 : Int) ≤ u.1.2.2.2.1) ∧ ((u.1.2.2.2.1 : Int) ≤ Msz ∧ (Msz : Int) ≤ 900) ∧ (0 ≤ (u.1.2.1 : Int) ∧ (u.1.2.1 : Int) ≤ 4) ∧ ((u.1.2.1 : Int) ≤ 4 * (u.1.2.2.2.1 - u.1.2.2.1)) ∧ (-1 ≤ (u.1.2.2.2.2 : Int) ∧ (u.1.2.2.2.2 : Int) ≤ 100000)) ∧ (Men ≤ u.1.2.2.1)) (fun u => [(hm, .inr (12, [.ref Ma, .ref Mn, .int (iZ Mst), .long Mtp, .long Mbt, .ref Ms, .ref My, .ref Mt, .ref Mp, .ref Mx, .int (iZ Mtd), .int (iZ Msz), .int (iZ u.1.2.1), .int (iZ u.1.2.2.1), .int (iZ u.1.2.2.2.1), .int (iZ u.1.2.2.2.2), .int (iZ Mfk), .int (iZ Mfp), .int (iZ Mfs), .int (iZ Mse), .int (iZ Mlt), .ref Mo, .int (iZ Mdp), .int (iZ Mct), .ref Mk, .ref Ml, .ref Mb, .ref Mh, .ref Mc, .int (iZ Mdr), .int (iZ Mrs), .ref Mz, .ref Mr, .ref Mq, .int (iZ Mit), .int (iZ Mmk)])), (Mx, .inl (k 0, 900, .inl Xf))]) D A) [.ref hm].toArray s 0 0 A) (F0 m 128 ls []) := by
                  intro fu
                  induction fu with
                  | zero => intro Men3 Mva3 H locs ls hμ3 he3 hrun3 hv3 hb3 hP hD hS hl; exact absurd hμ3 (by omega)
                  | succ fu ih3 =>
                    intro Men3 Mva3 H locs ls hμ3 he3 hrun3 hv3 hb3 hP hD hS hl
                    refine lv_aload_n hx hb dX12_onward_128 rfl (lv_at hl 1 rfl) ?_
                    refine lv_aload_n hx hb dX12_onward_129 rfl (lv_at hl 1 rfl) ?_
                    refine va_get (D := D) (ci := 12) (v := .int (iZ Men3)) (C := RX12) (T := TX12) (N := 36) hx hb hts iX12 hown hK hP 0 rfl rfl 14 (bl rfl) (hts _ qf_X12_115) (fun _ h => h) rfl dX12_onward_130 ?_
                    refine CRV (As := [.int (iZ Men3)]) (rest := []) hx hb hml hown hts hKK hP (y_byteAt l D k ([.ref Ma, .ref Mn, .int (iZ Mst), .long Mtp, .long Mbt, .ref Ms, .ref My, .ref Mt, .ref Mp, .ref Mx, .int (iZ Mtd), .int (iZ Msz), .int (iZ Mtk), .int (iZ Men1), .int (iZ Men3), .int (iZ Mva3), .int (iZ Mfk), .int (iZ Mfp), .int (iZ Mfs), .int (iZ Mse), .int (iZ Mlt), .ref Mo, .int (iZ Mdp), .int (iZ Mct), .ref Mk, .ref Ml, .ref Mb, .ref Mh, .ref Mc, .int (iZ Mdr), .int (iZ Mrs), .ref Mz, .ref Mr, .ref Mq, .int (iZ Mit), .int (iZ Mmk)]) hm Mx Msz Xf Men3 rfl rfl ⟨by omega, by omega⟩ ⟨by omega, by omega⟩) ci_X12_byteAt qm_X12_118 ⟨Nat.le_of_ble_eq_true rfl, Nat.le_of_ble_eq_true rfl⟩ ⟨Nat.le_of_ble_eq_true rfl, Nat.le_of_ble_eq_true rfl⟩ 0 rfl rfl rfl hl.1 rfl (Nat.le_of_ble_eq_true rfl) dX12_onward_133 ?_
                    have hb_h_18 := tX_rg Xf Msz Men3 (by omega)
                    refine CPS (As := [.int (iZ (tX Xf Msz Men3))]) (rest := []) hx hb hml hown hts hKK (hP.sub (ws' := []) [] rfl) (m_isDigit l D k (tX Xf Msz Men3) ⟨by omega, by omega⟩) ci_X12_isDigit qm_X12_133 ⟨Nat.le_of_ble_eq_true rfl, Nat.le_of_ble_eq_true rfl⟩ ⟨Nat.le_of_ble_eq_true rfl, Nat.le_of_ble_eq_true rfl⟩ rfl hl.1 rfl (Nat.le_of_ble_eq_true rfl) dX12_onward_136 (fun z_19 hz_19 => ?_)
                    rcases hz_19 with ⟨qz_19, hz_19⟩ | ⟨qz_19, hz_19⟩
                    ·
                      subst qz_19
                      refine lv_if_eq (tgt := 183) hx hb dX12_onward_139 rfl (fun c => absurd c (by decide)) (fun _ => ?_)
                      refine lv_aload_n hx hb dX12_onward_142 rfl (lv_at hl 1 rfl) ?_
                      refine lv_ldc (own := RX12) (v := 100000) hx hb hown (hts _ qk_X12_136) dX12_onward_143 ?_
                      refine W.eq (g2 := F0 m 145 ls [.int (iZ 100000), .ref hm]) rfl ?_
                      refine lv_bipush (v := iZ 10) hx hb dX12_onward_145 bip_10 ?_
                      refine lv_aload_n hx hb dX12_onward_147 rfl (lv_at hl 1 rfl) ?_
                      refine va_get (D := D) (ci := 12) (v := .int (iZ Mva3)) (C := RX12) (T := TX12) (N := 36) hx hb hts iX12 hown hK hP 0 rfl rfl 15 (bl rfl) (hts _ qf_X12_124) (fun _ h => h) rfl dX12_onward_148 ?_
                      refine lv_imul hx hb dX12_onward_151 ?_
                      refine lv_topi (fun x_21 ex_21 => ?_)
                      obtain rfl : x_21 = iZ (10 * Mva3) := ex_21.trans (iZ_mul 10 Mva3)
                      refine lv_aload_n hx hb dX12_onward_152 rfl (lv_at hl 1 rfl) ?_
                      refine lv_aload_n hx hb dX12_onward_153 rfl (lv_at hl 1 rfl) ?_
                      refine va_get (D := D) (ci := 12) (v := .int (iZ Men3)) (C := RX12) (T := TX12) (N := 36) hx hb hts iX12 hown hK hP 0 rfl rfl 14 (bl rfl) (hts _ qf_X12_115) (fun _ h => h) rfl dX12_onward_154 ?_
                      refine CRV (As := [.int (iZ Men3)]) (rest := [.int (iZ (10 * Mva3)), .int (iZ 100000), .ref hm]) hx hb hml hown hts hKK hP (y_byteAt l D k ([.ref Ma, .ref Mn, .int (iZ Mst), .long Mtp, .long Mbt, .ref Ms, .ref My, .ref Mt, .ref Mp, .ref Mx, .int (iZ Mtd), .int (iZ Msz), .int (iZ Mtk), .int (iZ Men1), .int (iZ Men3), .int (iZ Mva3), .int (iZ Mfk), .int (iZ Mfp), .int (iZ Mfs), .int (iZ Mse), .int (iZ Mlt), .ref Mo, .int (iZ Mdp), .int (iZ Mct), .ref Mk, .ref Ml, .ref Mb, .ref Mh, .ref Mc, .int (iZ Mdr), .int (iZ Mrs), .ref Mz, .ref Mr, .ref Mq, .int (iZ Mit), .int (iZ Mmk)]) hm Mx Msz Xf Men3 rfl rfl ⟨by omega, by omega⟩ ⟨by omega, by omega⟩) ci_X12_byteAt qm_X12_118 ⟨Nat.le_of_ble_eq_true rfl, Nat.le_of_ble_eq_true rfl⟩ ⟨Nat.le_of_ble_eq_true rfl, Nat.le_of_ble_eq_true rfl⟩ 0 rfl rfl rfl hl.1 rfl (Nat.le_of_ble_eq_true rfl) dX12_onward_157 ?_
                      have hb_h_22 := tX_rg Xf Msz Men3 (by omega)
                      refine lv_iadd hx hb dX12_onward_160 ?_
                      refine lv_topi (fun x_23 ex_23 => ?_)
                      obtain rfl : x_23 = iZ ((10 * Mva3) + (tX Xf Msz Men3)) := ex_23.trans (iZ_add (10 * Mva3) (tX Xf Msz Men3))
                      refine lv_bipush (v := iZ 48) hx hb dX12_onward_161 bip_48 ?_
                      refine lv_isub hx hb dX12_onward_163 ?_
                      refine lv_topi (fun x_24 ex_24 => ?_)
                      obtain rfl : x_24 = iZ (((10 * Mva3) + (tX Xf Msz Men3)) - 48) := ex_24.trans (iZ_sub ((10 * Mva3) + (tX Xf Msz Men3)) 48)
                      refine va_mmin (rest := [.ref hm]) hx hb (by rw [hml]; exact hl.1.symm) (own := RX12) hown (hts _ qm_X12_137) (hts _ qt_yJ9_min_7cf53) (hts _ qz_J9) (hts _ qc_J9_min_7cf53) (Nat.le_of_ble_eq_true rfl) (Nat.le_of_ble_eq_true rfl) (Nat.le_of_ble_eq_true rfl) (Nat.le_of_ble_eq_true rfl) dX12_onward_164 ?_
                      refine lv_topi (fun x_25 ex_25 => ?_)
                      obtain rfl : x_25 = iZ (min 100000 (((10 * Mva3) + (tX Xf Msz Men3)) - 48)) := ex_25.trans (zmin ⟨by omega, by omega⟩ ⟨by omega, by omega⟩)
                      refine va_put (D := D) (ci := 12) (v := .int (iZ (min 100000 (((10 * Mva3) + (tX Xf Msz Men3)) - 48)))) (ty := .int) (C := RX12) (T := TX12) (N := 36) hx hb hts iX12 tyX12 tyX12_ok nmX12 hown hK hP hD hS 0 rfl rfl 15 (bl rfl) (hts _ qf_X12_124) (fun _ h => h) rfl (by decide +kernel) rfl rfl (Nat.le_of_ble_eq_true rfl) dX12_onward_167 (fun H locs hP hD hS => ?_)
                      refine lv_aload_n hx hb dX12_onward_170 rfl (lv_at hl 1 rfl) ?_
                      refine lv_dup hx hb dX12_onward_171 rfl ?_
                      refine va_get (D := D) (ci := 12) (v := .int (iZ Men3)) (C := RX12) (T := TX12) (N := 36) hx hb hts iX12 hown hK hP 0 rfl rfl 14 (bl rfl) (hts _ qf_X12_115) (fun _ h => h) rfl dX12_onward_172 ?_
                      refine lv_iconst (v := iZ 1) hx hb dX12_onward_175 rfl ?_
                      refine lv_iadd hx hb dX12_onward_176 ?_
                      refine lv_topi (fun x_26 ex_26 => ?_)
                      obtain rfl : x_26 = iZ (Men3 + 1) := ex_26.trans (iZ_add Men3 1)
                      refine va_put (D := D) (ci := 12) (v := .int (iZ (Men3 + 1))) (ty := .int) (C := RX12) (T := TX12) (N := 36) hx hb hts iX12 tyX12 tyX12_ok nmX12 hown hK hP hD hS 0 rfl rfl 14 (bl rfl) (hts _ qf_X12_115) (fun _ h => h) rfl (by decide +kernel) rfl rfl (Nat.le_of_ble_eq_true rfl) dX12_onward_177 (fun H locs hP hD hS => ?_)
                      refine lv_goto (tgt := 128) hx hb dX12_onward_180 rfl ?_
                      exact ih3  (Men3 + 1) (min 100000 (((10 * Mva3) + (tX Xf Msz Men3)) - 48)) _ _ _ (by omega) (show Men1 ≤ (Men3 + 1) ∧ (Men3 + 1) ≤ Msz from ⟨by omega, by omega⟩) (show ∀ j : Int, Men1 ≤ j → j < (Men3 + 1) → dgB (tX Xf Msz j) from (rn_step hrun3 (show 48 ≤ tX Xf Msz Men3 ∧ tX Xf Msz Men3 ≤ 57 from (by omega)))) (show (Men3 + 1) - Men1 ≤ 4 → (min 100000 (((10 * Mva3) + (tX Xf Msz Men3)) - 48)) = xDv (tX Xf Msz) Men1 ((Men3 + 1) - Men1).toNat from (fun h9 => by have g9 := hv3 (by omega); have k9 := xDv_step (T := tX Xf Msz) (a := Men1) (e := Men3) (by omega) g9; omega)) (show 0 ≤ (min 100000 (((10 * Mva3) + (tX Xf Msz Men3)) - 48)) ∧ (min 100000 (((10 * Mva3) + (tX Xf Msz Men3)) - 48)) ≤ 100000 ∧ ((Men3 + 1) - Men1 ≤ 3 → (min 100000 (((10 * Mva3) + (tX Xf Msz Men3)) - 48)) ≤ 999) ∧ ((Men3 + 1) - Men1 ≤ 2 → (min 100000 (((10 * Mva3) + (tX Xf Msz Men3)) - 48)) ≤ 99) ∧ ((Men3 + 1) - Men1 ≤ 1 → (min 100000 (((10 * Mva3) + (tX Xf Msz Men3)) - 48)) ≤ 9) ∧ ((Men3 + 1) - Men1 ≤ 0 → (min 100000 (((10 * Mva3) + (tX Xf Msz Men3)) - 48)) ≤ 0) from ⟨by omega, by omega, fun _ => by omega, fun _ => by omega, fun _ => by omega, fun _ => by omega⟩) (hP.sub [0, 1] rfl) (hD.sub [0, 1] rfl rfl) hS (lv_sub hl [0, 1] rfl)
                    ·
                      subst qz_19
                      refine lv_if_eq (tgt := 183) hx hb dX12_onward_139 rfl (fun _ => ?_) (fun c => absurd (by decide) c)
                      refine lv_aload_n hx hb dX12_onward_183 rfl (lv_at hl 1 rfl) ?_
                      refine lv_aload_n hx hb dX12_onward_184 rfl (lv_at hl 1 rfl) ?_
                      refine va_get (D := D) (ci := 12) (v := .int (iZ Men3)) (C := RX12) (T := TX12) (N := 36) hx hb hts iX12 hown hK hP 0 rfl rfl 14 (bl rfl) (hts _ qf_X12_115) (fun _ h => h) rfl dX12_onward_185 ?_
                      refine lv_aload_n hx hb dX12_onward_188 rfl (lv_at hl 1 rfl) ?_
                      refine va_get (D := D) (ci := 12) (v := .int (iZ Men1)) (C := RX12) (T := TX12) (N := 36) hx hb hts iX12 hown hK hP 0 rfl rfl 13 (bl rfl) (hts _ qf_X12_121) (fun _ h => h) rfl dX12_onward_189 ?_
                      refine lv_isub hx hb dX12_onward_192 ?_
                      refine lv_topi (fun x_28 ex_28 => ?_)
                      obtain rfl : x_28 = iZ (Men3 - Men1) := ex_28.trans (iZ_sub Men3 Men1)
                      refine lv_iconst (v := iZ 4) hx hb dX12_onward_193 rfl ?_
                      refine lv_icmp_le (tgt := 201) hx hb dX12_onward_194 rfl (fun c_29 => ?_) (fun c_29 => ?_)
                      ·
                        have c_29 := (zle (x := iZ (Men3 - Men1)) (y := iZ 4) rfl rfl ⟨by omega, by omega⟩ wn_4).mp c_29
                        refine lv_iconst (v := iZ 3) hx hb dX12_onward_201 rfl ?_
                        refine va_put (D := D) (ci := 12) (v := .int (iZ 3)) (ty := .int) (C := RX12) (T := TX12) (N := 36) hx hb hts iX12 tyX12 tyX12_ok nmX12 hown hK hP hD hS 0 rfl rfl 12 (bl rfl) (hts _ qf_X12_127) (fun _ h => h) rfl (by decide +kernel) rfl rfl (Nat.le_of_ble_eq_true rfl) dX12_onward_202 (fun H locs hP hD hS => ?_)
                        refine lv_goto (tgt := 251) hx hb dX12_onward_205 rfl ?_
                        have hdg : dgB (tX Xf Msz Men1) := (show 48 ≤ tX Xf Msz Men1 ∧ tX Xf Msz Men1 ≤ 57 from (by omega))
                        have hr1 : isRn dgB (tX Xf Msz) Men1 Men3 := ⟨by omega, hrun3, (show ¬ (48 ≤ tX Xf Msz Men3 ∧ tX Xf Msz Men3 ≤ 57) from (by omega))⟩
                        have tk := tk_num hpl hdg hr1
                        have hlt9 := rn_lt hr1 hdg
                        exact EWv hx hb hr hlocks hS ((0, 3, Men1, Men3, Mva3), 0, (), ()) rfl ⟨(show RFX (tX Xf Msz) Men Men1 Men3 3 Mva3 from ⟨⟨by omega, hpl⟩, tk.1.symm, (by rw [tk.2.1, if_neg (by omega)]; rfl), (fun _ => by rw [tk.2.2.2]; exact hv3 (by omega)), (fun h => absurd h (by omega)), Or.inr (rn_lt hr1 hdg)⟩), (show (0 ≤ (Men1 : Int) ∧ (Men1 : Int) ≤ Men3) ∧ ((Men3 : Int) ≤ Msz ∧ (Msz : Int) ≤ 900) ∧ (0 ≤ (3 : Int) ∧ (3 : Int) ≤ 4) ∧ ((3 : Int) ≤ 4 * (Men3 - Men1)) ∧ (-1 ≤ (Mva3 : Int) ∧ (Mva3 : Int) ≤ 100000) from (by first | with_reducible assumption | exact ⟨⟨by omega, by omega⟩, ⟨by omega, by omega⟩, ⟨by omega, by omega⟩, by omega, by omega, by omega⟩)), (show Men ≤ Men1 from (by omega))⟩ (hP.sub [0, 1] rfl) (hD.sub [0, 1] rfl rfl) dX12_onward_251
                      ·
                        have c_29 := mt (zle (x := iZ (Men3 - Men1)) (y := iZ 4) rfl rfl ⟨by omega, by omega⟩ wn_4).mpr c_29
                        refine lv_iconst (v := iZ 1) hx hb dX12_onward_197 rfl ?_
                        refine lv_goto (tgt := 202) hx hb dX12_onward_198 rfl ?_
                        refine va_put (D := D) (ci := 12) (v := .int (iZ 1)) (ty := .int) (C := RX12) (T := TX12) (N := 36) hx hb hts iX12 tyX12 tyX12_ok nmX12 hown hK hP hD hS 0 rfl rfl 12 (bl rfl) (hts _ qf_X12_127) (fun _ h => h) rfl (by decide +kernel) rfl rfl (Nat.le_of_ble_eq_true rfl) dX12_onward_202 (fun H locs hP hD hS => ?_)
                        refine lv_goto (tgt := 251) hx hb dX12_onward_205 rfl ?_
                        have hdg : dgB (tX Xf Msz Men1) := (show 48 ≤ tX Xf Msz Men1 ∧ tX Xf Msz Men1 ≤ 57 from (by omega))
                        have hr1 : isRn dgB (tX Xf Msz) Men1 Men3 := ⟨by omega, hrun3, (show ¬ (48 ≤ tX Xf Msz Men3 ∧ tX Xf Msz Men3 ≤ 57) from (by omega))⟩
                        have tk := tk_num hpl hdg hr1
                        have hlt9 := rn_lt hr1 hdg
                        exact EWv hx hb hr hlocks hS ((0, 1, Men1, Men3, Mva3), 0, (), ()) rfl ⟨(show RFX (tX Xf Msz) Men Men1 Men3 1 Mva3 from ⟨⟨by omega, hpl⟩, tk.1.symm, (by rw [tk.2.1, if_pos (by omega)]; rfl), (fun h => absurd h (by omega)), (fun h => absurd h (by omega)), Or.inr (rn_lt hr1 hdg)⟩), (show (0 ≤ (Men1 : Int) ∧ (Men1 : Int) ≤ Men3) ∧ ((Men3 : Int) ≤ Msz ∧ (Msz : Int) ≤ 900) ∧ (0 ≤ (1 : Int) ∧ (1 : Int) ≤ 4) ∧ ((1 : Int) ≤ 4 * (Men3 - Men1)) ∧ (-1 ≤ (Mva3 : Int) ∧ (Mva3 : Int) ≤ 100000) from (by first | with_reducible assumption | exact ⟨⟨by omega, by omega⟩, ⟨by omega, by omega⟩, ⟨by omega, by omega⟩, by omega, by omega, by omega⟩)), (show Men ≤ Men1 from (by omega))⟩ (hP.sub [0, 1] rfl) (hD.sub [0, 1] rfl rfl) dX12_onward_251
                exact HL3 902 Men1 0 _ _ _ (by omega) (show Men1 ≤ Men1 ∧ Men1 ≤ Msz from ⟨by omega, by omega⟩) (show ∀ j : Int, Men1 ≤ j → j < Men1 → dgB (tX Xf Msz j) from rn_none) (show Men1 - Men1 ≤ 4 → 0 = xDv (tX Xf Msz) Men1 (Men1 - Men1).toNat from (fun _ => xDv_0.symm)) (show 0 ≤ 0 ∧ 0 ≤ 100000 ∧ (Men1 - Men1 ≤ 3 → 0 ≤ 999) ∧ (Men1 - Men1 ≤ 2 → 0 ≤ 99) ∧ (Men1 - Men1 ≤ 1 → 0 ≤ 9) ∧ (Men1 - Men1 ≤ 0 → 0 ≤ 0) from ⟨by omega, by omega, fun _ => by omega, fun _ => by omega, fun _ => by omega, fun _ => by omega⟩) (hP.sub [0, 1] rfl) (hD.sub [0, 1] rfl rfl) hS (lv_sub hl [0, 1] rfl)
              ·
                subst qz_16
                refine lv_if_eq (tgt := 208) hx hb dX12_onward_120 rfl (fun _ => ?_) (fun c => absurd (by decide) c)
                refine lv_aload_n hx hb dX12_onward_208 rfl (lv_at hl 1 rfl) ?_
                refine lv_dup hx hb dX12_onward_209 rfl ?_
                refine va_get (D := D) (ci := 12) (v := .int (iZ Men1)) (C := RX12) (T := TX12) (N := 36) hx hb hts iX12 hown hK hP 0 rfl rfl 14 (bl rfl) (hts _ qf_X12_115) (fun _ h => h) rfl dX12_onward_210 ?_
                refine lv_iconst (v := iZ 1) hx hb dX12_onward_213 rfl ?_
                refine lv_iadd hx hb dX12_onward_214 ?_
                refine lv_topi (fun x_31 ex_31 => ?_)
                obtain rfl : x_31 = iZ (Men1 + 1) := ex_31.trans (iZ_add Men1 1)
                refine va_put (D := D) (ci := 12) (v := .int (iZ (Men1 + 1))) (ty := .int) (C := RX12) (T := TX12) (N := 36) hx hb hts iX12 tyX12 tyX12_ok nmX12 hown hK hP hD hS 0 rfl rfl 14 (bl rfl) (hts _ qf_X12_115) (fun _ h => h) rfl (by decide +kernel) rfl rfl (Nat.le_of_ble_eq_true rfl) dX12_onward_215 (fun H locs hP hD hS => ?_)
                refine lv_aload_n hx hb dX12_onward_218 rfl (lv_at hl 1 rfl) ?_
                refine lv_iload_n hx hb dX12_onward_219 rfl (lv_at hl 0 rfl) ?_
                refine lv_bipush (v := iZ 59) hx hb dX12_onward_220 bip_59 ?_
                refine lv_icmp_eq (tgt := 243) hx hb dX12_onward_222 rfl (fun c_32 => ?_) (fun c_32 => ?_)
                ·
                  have c_32 := (zeq (x := iZ (tX Xf Msz Men1)) (y := iZ 59) rfl rfl ⟨by omega, by omega⟩ wn_59).mp c_32
                  refine lv_iconst (v := iZ 4) hx hb dX12_onward_243 rfl ?_
                  refine lv_goto (tgt := 248) hx hb dX12_onward_244 rfl ?_
                  refine va_put (D := D) (ci := 12) (v := .int (iZ 4)) (ty := .int) (C := RX12) (T := TX12) (N := 36) hx hb hts iX12 tyX12 tyX12_ok nmX12 hown hK hP hD hS 0 rfl rfl 12 (bl rfl) (hts _ qf_X12_127) (fun _ h => h) rfl (by decide +kernel) rfl rfl (Nat.le_of_ble_eq_true rfl) dX12_onward_248 (fun H locs hP hD hS => ?_)
                  have tk := tk_sign hpl (show ¬ tX Xf Msz Men1 = -1 from (by omega)) (show ¬ (97 ≤ tX Xf Msz Men1 ∧ tX Xf Msz Men1 ≤ 122) from (by omega)) (show ¬ (48 ≤ tX Xf Msz Men1 ∧ tX Xf Msz Men1 ≤ 57) from (by omega))
                  exact EWv hx hb hr hlocks hS ((0, 4, Men1, (Men1 + 1), (tX Xf Msz Men1)), 0, (), ()) rfl ⟨(show RFX (tX Xf Msz) Men Men1 (Men1 + 1) 4 (tX Xf Msz Men1) from ⟨⟨by omega, hpl⟩, tk.1.symm, (by rw [tk.2.1, if_pos (by omega)]; rfl), (fun _ => tk.2.2.2.symm), (fun h => absurd h (by omega)), Or.inr (by omega)⟩), (show (0 ≤ (Men1 : Int) ∧ (Men1 : Int) ≤ (Men1 + 1)) ∧ (((Men1 + 1) : Int) ≤ Msz ∧ (Msz : Int) ≤ 900) ∧ (0 ≤ (4 : Int) ∧ (4 : Int) ≤ 4) ∧ ((4 : Int) ≤ 4 * ((Men1 + 1) - Men1)) ∧ (-1 ≤ ((tX Xf Msz Men1) : Int) ∧ ((tX Xf Msz Men1) : Int) ≤ 100000) from (by first | with_reducible assumption | exact ⟨⟨by omega, by omega⟩, ⟨by omega, by omega⟩, ⟨by omega, by omega⟩, by omega, by omega, by omega⟩)), (show Men ≤ Men1 from (by omega))⟩ (hP.sub [0, 1] rfl) (hD.sub [0, 1] rfl rfl) dX12_onward_251
                ·
                  have c_32 := mt (zeq (x := iZ (tX Xf Msz Men1)) (y := iZ 59) rfl rfl ⟨by omega, by omega⟩ wn_59).mpr c_32
                  refine lv_iload_n hx hb dX12_onward_225 rfl (lv_at hl 0 rfl) ?_
                  refine lv_bipush (v := iZ 60) hx hb dX12_onward_226 bip_60 ?_
                  refine lv_icmp_eq (tgt := 243) hx hb dX12_onward_228 rfl (fun c_33 => ?_) (fun c_33 => ?_)
                  ·
                    have c_33 := (zeq (x := iZ (tX Xf Msz Men1)) (y := iZ 60) rfl rfl ⟨by omega, by omega⟩ wn_60).mp c_33
                    refine lv_iconst (v := iZ 4) hx hb dX12_onward_243 rfl ?_
                    refine lv_goto (tgt := 248) hx hb dX12_onward_244 rfl ?_
                    refine va_put (D := D) (ci := 12) (v := .int (iZ 4)) (ty := .int) (C := RX12) (T := TX12) (N := 36) hx hb hts iX12 tyX12 tyX12_ok nmX12 hown hK hP hD hS 0 rfl rfl 12 (bl rfl) (hts _ qf_X12_127) (fun _ h => h) rfl (by decide +kernel) rfl rfl (Nat.le_of_ble_eq_true rfl) dX12_onward_248 (fun H locs hP hD hS => ?_)
                    have tk := tk_sign hpl (show ¬ tX Xf Msz Men1 = -1 from (by omega)) (show ¬ (97 ≤ tX Xf Msz Men1 ∧ tX Xf Msz Men1 ≤ 122) from (by omega)) (show ¬ (48 ≤ tX Xf Msz Men1 ∧ tX Xf Msz Men1 ≤ 57) from (by omega))
                    exact EWv hx hb hr hlocks hS ((0, 4, Men1, (Men1 + 1), (tX Xf Msz Men1)), 0, (), ()) rfl ⟨(show RFX (tX Xf Msz) Men Men1 (Men1 + 1) 4 (tX Xf Msz Men1) from ⟨⟨by omega, hpl⟩, tk.1.symm, (by rw [tk.2.1, if_pos (by omega)]; rfl), (fun _ => tk.2.2.2.symm), (fun h => absurd h (by omega)), Or.inr (by omega)⟩), (show (0 ≤ (Men1 : Int) ∧ (Men1 : Int) ≤ (Men1 + 1)) ∧ (((Men1 + 1) : Int) ≤ Msz ∧ (Msz : Int) ≤ 900) ∧ (0 ≤ (4 : Int) ∧ (4 : Int) ≤ 4) ∧ ((4 : Int) ≤ 4 * ((Men1 + 1) - Men1)) ∧ (-1 ≤ ((tX Xf Msz Men1) : Int) ∧ ((tX Xf Msz Men1) : Int) ≤ 100000) from (by first | with_reducible assumption | exact ⟨⟨by omega, by omega⟩, ⟨by omega, by omega⟩, ⟨by omega, by omega⟩, by omega, by omega, by omega⟩)), (show Men ≤ Men1 from (by omega))⟩ (hP.sub [0, 1] rfl) (hD.sub [0, 1] rfl rfl) dX12_onward_251
                  ·
                    have c_33 := mt (zeq (x := iZ (tX Xf Msz Men1)) (y := iZ 60) rfl rfl ⟨by omega, by omega⟩ wn_60).mpr c_33
                    refine lv_iload_n hx hb dX12_onward_231 rfl (lv_at hl 0 rfl) ?_
                    refine lv_bipush (v := iZ 62) hx hb dX12_onward_232 bip_62 ?_
                    refine lv_icmp_eq (tgt := 243) hx hb dX12_onward_234 rfl (fun c_34 => ?_) (fun c_34 => ?_)
                    ·
                      have c_34 := (zeq (x := iZ (tX Xf Msz Men1)) (y := iZ 62) rfl rfl ⟨by omega, by omega⟩ wn_62).mp c_34
                      refine lv_iconst (v := iZ 4) hx hb dX12_onward_243 rfl ?_
                      refine lv_goto (tgt := 248) hx hb dX12_onward_244 rfl ?_
                      refine va_put (D := D) (ci := 12) (v := .int (iZ 4)) (ty := .int) (C := RX12) (T := TX12) (N := 36) hx hb hts iX12 tyX12 tyX12_ok nmX12 hown hK hP hD hS 0 rfl rfl 12 (bl rfl) (hts _ qf_X12_127) (fun _ h => h) rfl (by decide +kernel) rfl rfl (Nat.le_of_ble_eq_true rfl) dX12_onward_248 (fun H locs hP hD hS => ?_)
                      have tk := tk_sign hpl (show ¬ tX Xf Msz Men1 = -1 from (by omega)) (show ¬ (97 ≤ tX Xf Msz Men1 ∧ tX Xf Msz Men1 ≤ 122) from (by omega)) (show ¬ (48 ≤ tX Xf Msz Men1 ∧ tX Xf Msz Men1 ≤ 57) from (by omega))
                      exact EWv hx hb hr hlocks hS ((0, 4, Men1, (Men1 + 1), (tX Xf Msz Men1)), 0, (), ()) rfl ⟨(show RFX (tX Xf Msz) Men Men1 (Men1 + 1) 4 (tX Xf Msz Men1) from ⟨⟨by omega, hpl⟩, tk.1.symm, (by rw [tk.2.1, if_pos (by omega)]; rfl), (fun _ => tk.2.2.2.symm), (fun h => absurd h (by omega)), Or.inr (by omega)⟩), (show (0 ≤ (Men1 : Int) ∧ (Men1 : Int) ≤ (Men1 + 1)) ∧ (((Men1 + 1) : Int) ≤ Msz ∧ (Msz : Int) ≤ 900) ∧ (0 ≤ (4 : Int) ∧ (4 : Int) ≤ 4) ∧ ((4 : Int) ≤ 4 * ((Men1 + 1) - Men1)) ∧ (-1 ≤ ((tX Xf Msz Men1) : Int) ∧ ((tX Xf Msz Men1) : Int) ≤ 100000) from (by first | with_reducible assumption | exact ⟨⟨by omega, by omega⟩, ⟨by omega, by omega⟩, ⟨by omega, by omega⟩, by omega, by omega, by omega⟩)), (show Men ≤ Men1 from (by omega))⟩ (hP.sub [0, 1] rfl) (hD.sub [0, 1] rfl rfl) dX12_onward_251
                    ·
                      have c_34 := mt (zeq (x := iZ (tX Xf Msz Men1)) (y := iZ 62) rfl rfl ⟨by omega, by omega⟩ wn_62).mpr c_34
                      refine lv_iload_n hx hb dX12_onward_237 rfl (lv_at hl 0 rfl) ?_
                      refine lv_bipush (v := iZ 61) hx hb dX12_onward_238 bip_61 ?_
                      refine lv_icmp_ne (tgt := 247) hx hb dX12_onward_240 rfl (fun c_35 => ?_) (fun c_35 => ?_)
                      ·
                        have c_35 := mt (zeq (x := iZ (tX Xf Msz Men1)) (y := iZ 61) rfl rfl ⟨by omega, by omega⟩ wn_61).mpr c_35
                        refine lv_iconst (v := iZ 1) hx hb dX12_onward_247 rfl ?_
                        refine va_put (D := D) (ci := 12) (v := .int (iZ 1)) (ty := .int) (C := RX12) (T := TX12) (N := 36) hx hb hts iX12 tyX12 tyX12_ok nmX12 hown hK hP hD hS 0 rfl rfl 12 (bl rfl) (hts _ qf_X12_127) (fun _ h => h) rfl (by decide +kernel) rfl rfl (Nat.le_of_ble_eq_true rfl) dX12_onward_248 (fun H locs hP hD hS => ?_)
                        have tk := tk_sign hpl (show ¬ tX Xf Msz Men1 = -1 from (by omega)) (show ¬ (97 ≤ tX Xf Msz Men1 ∧ tX Xf Msz Men1 ≤ 122) from (by omega)) (show ¬ (48 ≤ tX Xf Msz Men1 ∧ tX Xf Msz Men1 ≤ 57) from (by omega))
                        exact EWv hx hb hr hlocks hS ((0, 1, Men1, (Men1 + 1), (tX Xf Msz Men1)), 0, (), ()) rfl ⟨(show RFX (tX Xf Msz) Men Men1 (Men1 + 1) 1 (tX Xf Msz Men1) from ⟨⟨by omega, hpl⟩, tk.1.symm, (by rw [tk.2.1, if_neg (by omega)]; rfl), (fun _ => tk.2.2.2.symm), (fun h => absurd h (by omega)), Or.inr (by omega)⟩), (show (0 ≤ (Men1 : Int) ∧ (Men1 : Int) ≤ (Men1 + 1)) ∧ (((Men1 + 1) : Int) ≤ Msz ∧ (Msz : Int) ≤ 900) ∧ (0 ≤ (1 : Int) ∧ (1 : Int) ≤ 4) ∧ ((1 : Int) ≤ 4 * ((Men1 + 1) - Men1)) ∧ (-1 ≤ ((tX Xf Msz Men1) : Int) ∧ ((tX Xf Msz Men1) : Int) ≤ 100000) from (by first | with_reducible assumption | exact ⟨⟨by omega, by omega⟩, ⟨by omega, by omega⟩, ⟨by omega, by omega⟩, by omega, by omega, by omega⟩)), (show Men ≤ Men1 from (by omega))⟩ (hP.sub [0, 1] rfl) (hD.sub [0, 1] rfl rfl) dX12_onward_251
                      ·
                        have c_35 := (zeq (x := iZ (tX Xf Msz Men1)) (y := iZ 61) rfl rfl ⟨by omega, by omega⟩ wn_61).mp c_35
                        refine lv_iconst (v := iZ 4) hx hb dX12_onward_243 rfl ?_
                        refine lv_goto (tgt := 248) hx hb dX12_onward_244 rfl ?_
                        refine va_put (D := D) (ci := 12) (v := .int (iZ 4)) (ty := .int) (C := RX12) (T := TX12) (N := 36) hx hb hts iX12 tyX12 tyX12_ok nmX12 hown hK hP hD hS 0 rfl rfl 12 (bl rfl) (hts _ qf_X12_127) (fun _ h => h) rfl (by decide +kernel) rfl rfl (Nat.le_of_ble_eq_true rfl) dX12_onward_248 (fun H locs hP hD hS => ?_)
                        have tk := tk_sign hpl (show ¬ tX Xf Msz Men1 = -1 from (by omega)) (show ¬ (97 ≤ tX Xf Msz Men1 ∧ tX Xf Msz Men1 ≤ 122) from (by omega)) (show ¬ (48 ≤ tX Xf Msz Men1 ∧ tX Xf Msz Men1 ≤ 57) from (by omega))
                        exact EWv hx hb hr hlocks hS ((0, 4, Men1, (Men1 + 1), (tX Xf Msz Men1)), 0, (), ()) rfl ⟨(show RFX (tX Xf Msz) Men Men1 (Men1 + 1) 4 (tX Xf Msz Men1) from ⟨⟨by omega, hpl⟩, tk.1.symm, (by rw [tk.2.1, if_pos (by omega)]; rfl), (fun _ => tk.2.2.2.symm), (fun h => absurd h (by omega)), Or.inr (by omega)⟩), (show (0 ≤ (Men1 : Int) ∧ (Men1 : Int) ≤ (Men1 + 1)) ∧ (((Men1 + 1) : Int) ≤ Msz ∧ (Msz : Int) ≤ 900) ∧ (0 ≤ (4 : Int) ∧ (4 : Int) ≤ 4) ∧ ((4 : Int) ≤ 4 * ((Men1 + 1) - Men1)) ∧ (-1 ≤ ((tX Xf Msz Men1) : Int) ∧ ((tX Xf Msz Men1) : Int) ≤ 100000) from (by first | with_reducible assumption | exact ⟨⟨by omega, by omega⟩, ⟨by omega, by omega⟩, ⟨by omega, by omega⟩, by omega, by omega, by omega⟩)), (show Men ≤ Men1 from (by omega))⟩ (hP.sub [0, 1] rfl) (hD.sub [0, 1] rfl rfl) dX12_onward_251
          ·
            have c_7 := (zeq (x := iZ (tX Xf Msz Men1)) (y := iZ (-1)) rfl rfl ⟨by omega, by omega⟩ wn_m1).mp c_7
            refine lv_aload_n hx hb dX12_onward_66 rfl (lv_at hl 1 rfl) ?_
            refine lv_iconst (v := iZ 0) hx hb dX12_onward_67 rfl ?_
            refine va_put (D := D) (ci := 12) (v := .int (iZ 0)) (ty := .int) (C := RX12) (T := TX12) (N := 36) hx hb hts iX12 tyX12 tyX12_ok nmX12 hown hK hP hD hS 0 rfl rfl 12 (bl rfl) (hts _ qf_X12_127) (fun _ h => h) rfl (by decide +kernel) rfl rfl (Nat.le_of_ble_eq_true rfl) dX12_onward_68 (fun H locs hP hD hS => ?_)
            refine lv_goto (tgt := 251) hx hb dX12_onward_71 rfl ?_
            have tk := tk_end hpl (show tX Xf Msz Men1 = -1 from (by omega))
            exact EWv hx hb hr hlocks hS ((0, 0, Men1, Men1, (tX Xf Msz Men1)), 0, (), ()) rfl ⟨(show RFX (tX Xf Msz) Men Men1 Men1 0 (tX Xf Msz Men1) from ⟨⟨by omega, hpl⟩, tk.1.symm, (by rw [tk.2.1]; rfl), (fun h => absurd h (by omega)), (fun h => absurd h (by omega)), Or.inl rfl⟩), (show (0 ≤ (Men1 : Int) ∧ (Men1 : Int) ≤ Men1) ∧ ((Men1 : Int) ≤ Msz ∧ (Msz : Int) ≤ 900) ∧ (0 ≤ (0 : Int) ∧ (0 : Int) ≤ 4) ∧ ((0 : Int) ≤ 4 * (Men1 - Men1)) ∧ (-1 ≤ ((tX Xf Msz Men1) : Int) ∧ ((tX Xf Msz Men1) : Int) ≤ 100000) from (by first | with_reducible assumption | exact ⟨⟨by omega, by omega⟩, ⟨by omega, by omega⟩, ⟨by omega, by omega⟩, by omega, by omega, by omega⟩)), (show Men ≤ Men1 from (by omega))⟩ (hP.sub [0, 1] rfl) (hD.sub [0, 1] rfl rfl) dX12_onward_251
        ·
          have c_5 := (zeq (x := iZ (tX Xf Msz Men1)) (y := iZ 10) rfl rfl ⟨by omega, by omega⟩ wn_10).mp c_5
          refine lv_aload_n hx hb dX12_onward_26 rfl (lv_at hl 0 rfl) ?_
          refine lv_dup hx hb dX12_onward_27 rfl ?_
          refine va_get (D := D) (ci := 12) (v := .int (iZ Men1)) (C := RX12) (T := TX12) (N := 36) hx hb hts iX12 hown hK hP 0 rfl rfl 14 (bl rfl) (hts _ qf_X12_115) (fun _ h => h) rfl dX12_onward_28 ?_
          refine lv_iconst (v := iZ 1) hx hb dX12_onward_31 rfl ?_
          refine lv_iadd hx hb dX12_onward_32 ?_
          refine lv_topi (fun x_36 ex_36 => ?_)
          obtain rfl : x_36 = iZ (Men1 + 1) := ex_36.trans (iZ_add Men1 1)
          refine va_put (D := D) (ci := 12) (v := .int (iZ (Men1 + 1))) (ty := .int) (C := RX12) (T := TX12) (N := 36) hx hb hts iX12 tyX12 tyX12_ok nmX12 hown hK hP hD hS 0 rfl rfl 14 (bl rfl) (hts _ qf_X12_115) (fun _ h => h) rfl (by decide +kernel) rfl rfl (Nat.le_of_ble_eq_true rfl) dX12_onward_33 (fun H locs hP hD hS => ?_)
          refine lv_goto (tgt := 0) hx hb dX12_onward_36 rfl ?_
          exact ih1  (Men1 + 1) _ _ _ (by omega) (show Men ≤ (Men1 + 1) ∧ (Men1 + 1) ≤ Msz from ⟨by omega, by omega⟩) (show ∀ j : Int, Men ≤ j → j < (Men1 + 1) → wsB (tX Xf Msz j) from (rn_step hrun (show tX Xf Msz Men1 = 32 ∨ tX Xf Msz Men1 = 10 from (by omega)))) (hP.sub [0, 1] rfl) (hD.sub [0, 1] rfl rfl) hS (lv_sub hl [0] rfl)
  exact HL1 902 Men _ _ _ (by omega) (show Men ≤ Men ∧ Men ≤ Msz from ⟨by omega, by omega⟩) (show ∀ j : Int, Men ≤ j → j < Men → wsB (tX Xf Msz j) from rn_none) (hP.sub [0, 1] rfl) (hD.sub [0, 1] rfl rfl) hS (lv_sub hl [0] rfl)
set_option maxHeartbeats 4000000 in
set_option maxRecDepth 100000 in
theorem y_fails (l : Launch) (D : va_G) (k : Nat → ClassId) (hm : Nat) (Ma : Nat) (Mn : Nat) (Ms : Nat) (My : Nat) (Mt : Nat) (Mp : Nat) (Mx : Nat) (Mo : Nat) (Mk : Nat) (Ml : Nat) (Mb : Nat) (Mh : Nat) (Mc : Nat) (Mz : Nat) (Mr : Nat) (Mq : Nat) (Mst : Int) (Mtd : Int) (Msz : Int) (Mtk : Int) (Mfr : Int) (Men : Int) (Mva : Int) (Mfk : Int) (Mfp : Int) (Mfs : Int) (Mse : Int) (Mlt : Int) (Mdp : Int) (Mct : Int) (Mdr : Int) (Mrs : Int) (Mit : Int) (Mmk : Int) (Mtp : Int64) (Mbt : Int64) (Xf : Nat → Int32) (x : Int) (cu : Int) (h9x : 1 ≤ (x : Int) ∧ x ≤ 9) (hf0 : Mfs = 0) (hrf : RFX (tX Xf Msz) cu Mfr Men Mtk Mva) : WD (σ := ((Int × Int × Int) × (Int64) × (Unit) × (Unit))) l yX12_fails cX12_fails 2 (some .boolean) 0 0 0 D k [.ref hm, .int (iZ x)] [(hm, .inr (12, [.ref Ma, .ref Mn, .int (iZ Mst), .long Mtp, .long Mbt, .ref Ms, .ref My, .ref Mt, .ref Mp, .ref Mx, .int (iZ Mtd), .int (iZ Msz), .int (iZ Mtk), .int (iZ Mfr), .int (iZ Men), .int (iZ Mva), .int (iZ Mfk), .int (iZ Mfp), .int (iZ Mfs), .int (iZ Mse), .int (iZ Mlt), .ref Mo, .int (iZ Mdp), .int (iZ Mct), .ref Mk, .ref Ml, .ref Mb, .ref Mh, .ref Mc, .int (iZ Mdr), .int (iZ Mrs), .ref Mz, .ref Mr, .ref Mq, .int (iZ Mit), .int (iZ Mmk)])), (Mx, .inl (k 0, 900, .inl Xf))] (fun _ => some (.int (iZ 0))) (fun u => (u.1.2.1 = xFl (tX Xf Msz) cu x ∧ u.1.2.2 = xPl (tX Xf Msz) cu) ∧ (1 ≤ (u.1.2.1 : Int) ∧ (u.1.2.1 : Int) ≤ 9)) (fun u => [(hm, .inr (12, [.ref Ma, .ref Mn, .int (iZ Mst), .long Mtp, .long Mbt, .ref Ms, .ref My, .ref Mt, .ref Mp, .ref Mx, .int (iZ Mtd), .int (iZ Msz), .int (iZ Mtk), .int (iZ Mfr), .int (iZ Men), .int (iZ Mva), .int (iZ Mfk), .int (iZ u.1.2.2), .int (iZ u.1.2.1), .int (iZ Mse), .int (iZ Mlt), .ref Mo, .int (iZ Mdp), .int (iZ Mct), .ref Mk, .ref Ml, .ref Mb, .ref Mh, .ref Mc, .int (iZ Mdr), .int (iZ Mrs), .ref Mz, .ref Mr, .ref Mq, .int (iZ Mit), .int (iZ Mmk)])), (Mx, .inl (k 0, 900, .inl Xf))]) := by
  refine MW (by decide) (Nat.le_of_ble_eq_true rfl) (fun p e s m below meth c ls A hx hb hml hr hlocks hin hts hown hKK hP hD hS hA hl => ?_)
  have hK := hKK.1
  have hl : lv_has ls 2 [(0, .ref hm), (1, .int (iZ x))] := hl
  obtain ⟨⟨ar_1, br_1⟩, cr_1, dr_1, er_1, gr_1, hr_1⟩ := id hrf
  have kr_1 := tk_1 dr_1 (xKd_rg _ _)
  have wr_1 := xKw_rg (tX Xf Msz) cu
  refine lv_aload_n hx hb dX12_fails_0 rfl (lv_at hl 0 rfl) ?_
  refine va_get (D := D) (ci := 12) (v := .int (iZ Mfs)) (C := RX12) (T := TX12) (N := 36) hx hb hts iX12 hown hK hP 0 rfl rfl 18 (bl rfl) (hts _ qf_X12_152) (fun _ h => h) rfl dX12_fails_1 ?_
  refine lv_if_ne (tgt := 32) hx hb dX12_fails_4 rfl (fun c_2 => ?_) (fun c_2 => ?_)
  ·
    have c_2 := mt (zeq (x := iZ Mfs) (y := iZ 0) rfl rfl ⟨by omega, by omega⟩ wn_0).mpr c_2
    refine lv_iconst (v := iZ 0) hx hb dX12_fails_32 rfl ?_
    exact EWz hx hb hr hlocks hS ((0, Mfs, Mfp), 0, (), ()) rfl rfl ⟨(show Mfs = xFl (tX Xf Msz) cu x ∧ Mfp = xPl (tX Xf Msz) cu from ⟨by omega, by omega⟩), (show 1 ≤ (Mfs : Int) ∧ (Mfs : Int) ≤ 9 from (by omega))⟩ (hP.sub [0, 1] rfl) (hD.sub [0, 1] rfl rfl) dX12_fails_33
  ·
    have c_2 := (zeq (x := iZ Mfs) (y := iZ 0) rfl rfl ⟨by omega, by omega⟩ wn_0).mp c_2
    refine lv_aload_n hx hb dX12_fails_7 rfl (lv_at hl 0 rfl) ?_
    refine lv_aload_n hx hb dX12_fails_8 rfl (lv_at hl 0 rfl) ?_
    refine va_get (D := D) (ci := 12) (v := .int (iZ Mtk)) (C := RX12) (T := TX12) (N := 36) hx hb hts iX12 hown hK hP 0 rfl rfl 12 (bl rfl) (hts _ qf_X12_127) (fun _ h => h) rfl dX12_fails_9 ?_
    refine lv_iconst (v := iZ 1) hx hb dX12_fails_12 rfl ?_
    refine lv_icmp_ne (tgt := 20) hx hb dX12_fails_13 rfl (fun c_3 => ?_) (fun c_3 => ?_)
    ·
      have c_3 := mt (zeq (x := iZ Mtk) (y := iZ 1) rfl rfl ⟨by omega, by omega⟩ wn_1).mpr c_3
      refine lv_iload_n hx hb dX12_fails_20 rfl (lv_at hl 1 rfl) ?_
      refine va_put (D := D) (ci := 12) (v := .int (iZ x)) (ty := .int) (C := RX12) (T := TX12) (N := 36) hx hb hts iX12 tyX12 tyX12_ok nmX12 hown hK hP hD hS 0 rfl rfl 18 (bl rfl) (hts _ qf_X12_152) (fun _ h => h) rfl (by decide +kernel) rfl rfl (Nat.le_of_ble_eq_true rfl) dX12_fails_21 (fun H locs hP hD hS => ?_)
      refine lv_aload_n hx hb dX12_fails_24 rfl (lv_at hl 0 rfl) ?_
      refine lv_aload_n hx hb dX12_fails_25 rfl (lv_at hl 0 rfl) ?_
      refine va_get (D := D) (ci := 12) (v := .int (iZ Mfr)) (C := RX12) (T := TX12) (N := 36) hx hb hts iX12 hown hK hP 0 rfl rfl 13 (bl rfl) (hts _ qf_X12_121) (fun _ h => h) rfl dX12_fails_26 ?_
      refine va_put (D := D) (ci := 12) (v := .int (iZ Mfr)) (ty := .int) (C := RX12) (T := TX12) (N := 36) hx hb hts iX12 tyX12 tyX12_ok nmX12 hown hK hP hD hS 0 rfl rfl 17 (bl rfl) (hts _ qf_X12_41) (fun _ h => h) rfl (by decide +kernel) rfl rfl (Nat.le_of_ble_eq_true rfl) dX12_fails_29 (fun H locs hP hD hS => ?_)
      refine lv_iconst (v := iZ 0) hx hb dX12_fails_32 rfl ?_
      exact EWz hx hb hr hlocks hS ((0, x, Mfr), 0, (), ()) rfl rfl ⟨(show x = xFl (tX Xf Msz) cu x ∧ Mfr = xPl (tX Xf Msz) cu from ⟨by unfold xFl; rw [if_neg (by omega)], by omega⟩), (show 1 ≤ (x : Int) ∧ (x : Int) ≤ 9 from (by omega))⟩ (hP.sub [0, 1] rfl) (hD.sub [0, 1] rfl rfl) dX12_fails_33
    ·
      have c_3 := (zeq (x := iZ Mtk) (y := iZ 1) rfl rfl ⟨by omega, by omega⟩ wn_1).mp c_3
      refine lv_iconst (v := iZ 1) hx hb dX12_fails_16 rfl ?_
      refine lv_goto (tgt := 21) hx hb dX12_fails_17 rfl ?_
      refine va_put (D := D) (ci := 12) (v := .int (iZ 1)) (ty := .int) (C := RX12) (T := TX12) (N := 36) hx hb hts iX12 tyX12 tyX12_ok nmX12 hown hK hP hD hS 0 rfl rfl 18 (bl rfl) (hts _ qf_X12_152) (fun _ h => h) rfl (by decide +kernel) rfl rfl (Nat.le_of_ble_eq_true rfl) dX12_fails_21 (fun H locs hP hD hS => ?_)
      refine lv_aload_n hx hb dX12_fails_24 rfl (lv_at hl 0 rfl) ?_
      refine lv_aload_n hx hb dX12_fails_25 rfl (lv_at hl 0 rfl) ?_
      refine va_get (D := D) (ci := 12) (v := .int (iZ Mfr)) (C := RX12) (T := TX12) (N := 36) hx hb hts iX12 hown hK hP 0 rfl rfl 13 (bl rfl) (hts _ qf_X12_121) (fun _ h => h) rfl dX12_fails_26 ?_
      refine va_put (D := D) (ci := 12) (v := .int (iZ Mfr)) (ty := .int) (C := RX12) (T := TX12) (N := 36) hx hb hts iX12 tyX12 tyX12_ok nmX12 hown hK hP hD hS 0 rfl rfl 17 (bl rfl) (hts _ qf_X12_41) (fun _ h => h) rfl (by decide +kernel) rfl rfl (Nat.le_of_ble_eq_true rfl) dX12_fails_29 (fun H locs hP hD hS => ?_)
      refine lv_iconst (v := iZ 0) hx hb dX12_fails_32 rfl ?_
      exact EWz hx hb hr hlocks hS ((0, 1, Mfr), 0, (), ()) rfl rfl ⟨(show 1 = xFl (tX Xf Msz) cu x ∧ Mfr = xPl (tX Xf Msz) cu from ⟨by unfold xFl; rw [if_pos (by omega)], by omega⟩), (show 1 ≤ (1 : Int) ∧ (1 : Int) ≤ 9 from (by omega))⟩ (hP.sub [0, 1] rfl) (hD.sub [0, 1] rfl rfl) dX12_fails_33
set_option maxHeartbeats 4000000 in
set_option maxRecDepth 100000 in
theorem y_isSign (l : Launch) (D : va_G) (k : Nat → ClassId) (hm : Nat) (Ma : Nat) (Mn : Nat) (Ms : Nat) (My : Nat) (Mt : Nat) (Mp : Nat) (Mx : Nat) (Mo : Nat) (Mk : Nat) (Ml : Nat) (Mb : Nat) (Mh : Nat) (Mc : Nat) (Mz : Nat) (Mr : Nat) (Mq : Nat) (Mst : Int) (Mtd : Int) (Msz : Int) (Mtk : Int) (Mfr : Int) (Men : Int) (Mva : Int) (Mfk : Int) (Mfp : Int) (Mfs : Int) (Mse : Int) (Mlt : Int) (Mdp : Int) (Mct : Int) (Mdr : Int) (Mrs : Int) (Mit : Int) (Mmk : Int) (Mtp : Int64) (Mbt : Int64) (Xf : Nat → Int32) (x : Int) (cu : Int) (h9x : -2147483648 ≤ x ∧ x < 2147483648) (hTI : (0 ≤ (Mfr : Int) ∧ (Mfr : Int) ≤ Men) ∧ ((Men : Int) ≤ Msz ∧ (Msz : Int) ≤ 900) ∧ (0 ≤ (Mtk : Int) ∧ (Mtk : Int) ≤ 4) ∧ ((Mtk : Int) ≤ 4 * (Men - Mfr)) ∧ (-1 ≤ (Mva : Int) ∧ (Mva : Int) ≤ 100000)) (hrf : RFX (tX Xf Msz) cu Mfr Men Mtk Mva) : RP l yX12_isSign cX12_isSign 2 (some .boolean) 0 D k [.ref hm, .int (iZ x)] [(hm, .inr (12, [.ref Ma, .ref Mn, .int (iZ Mst), .long Mtp, .long Mbt, .ref Ms, .ref My, .ref Mt, .ref Mp, .ref Mx, .int (iZ Mtd), .int (iZ Msz), .int (iZ Mtk), .int (iZ Mfr), .int (iZ Men), .int (iZ Mva), .int (iZ Mfk), .int (iZ Mfp), .int (iZ Mfs), .int (iZ Mse), .int (iZ Mlt), .ref Mo, .int (iZ Mdp), .int (iZ Mct), .ref Mk, .ref Ml, .ref Mb, .ref Mh, .ref Mc, .int (iZ Mdr), .int (iZ Mrs), .ref Mz, .ref Mr, .ref Mq, .int (iZ Mit), .int (iZ Mmk)])), (Mx, .inl (k 0, 900, .inl Xf))] (fun z => (z = 1 ∧ (xKd (tX Xf Msz) cu = 3 ∧ xVl (tX Xf Msz) cu = x)) ∨ (z = 0 ∧ ¬ (xKd (tX Xf Msz) cu = 3 ∧ xVl (tX Xf Msz) cu = x))) := by
  refine MRP (by decide) (Nat.le_of_ble_eq_true rfl) (fun p e s m below meth c ls hx hb hml hr hlocks hts hown hKK hP hl => ?_)
  have hK := hKK.1
  have hl : lv_has ls 2 [(0, .ref hm), (1, .int (iZ x))] := hl
  obtain ⟨⟨ar_1, br_1⟩, cr_1, dr_1, er_1, gr_1, hr_1⟩ := id hrf
  have kr_1 := tk_1 dr_1 (xKd_rg _ _)
  have wr_1 := xKw_rg (tX Xf Msz) cu
  refine lv_aload_n hx hb dX12_isSign_0 rfl (lv_at hl 0 rfl) ?_
  refine va_get (D := D) (ci := 12) (v := .int (iZ Mtk)) (C := RX12) (T := TX12) (N := 36) hx hb hts iX12 hown hK hP 0 rfl rfl 12 (bl rfl) (hts _ qf_X12_127) (fun _ h => h) rfl dX12_isSign_1 ?_
  refine lv_iconst (v := iZ 4) hx hb dX12_isSign_4 rfl ?_
  refine lv_icmp_ne (tgt := 20) hx hb dX12_isSign_5 rfl (fun c_2 => ?_) (fun c_2 => ?_)
  ·
    have c_2 := mt (zeq (x := iZ Mtk) (y := iZ 4) rfl rfl ⟨by omega, by omega⟩ wn_4).mpr c_2
    refine lv_iconst (v := iZ 0) hx hb dX12_isSign_20 rfl ?_
    exact EPz hx hb hr hlocks (by omega) (by omega) dX12_isSign_21
  ·
    have c_2 := (zeq (x := iZ Mtk) (y := iZ 4) rfl rfl ⟨by omega, by omega⟩ wn_4).mp c_2
    refine lv_aload_n hx hb dX12_isSign_8 rfl (lv_at hl 0 rfl) ?_
    refine va_get (D := D) (ci := 12) (v := .int (iZ Mva)) (C := RX12) (T := TX12) (N := 36) hx hb hts iX12 hown hK hP 0 rfl rfl 15 (bl rfl) (hts _ qf_X12_124) (fun _ h => h) rfl dX12_isSign_9 ?_
    refine lv_iload_n hx hb dX12_isSign_12 rfl (lv_at hl 1 rfl) ?_
    refine lv_icmp_ne (tgt := 20) hx hb dX12_isSign_13 rfl (fun c_3 => ?_) (fun c_3 => ?_)
    ·
      have c_3 := mt (zeq (x := iZ Mva) (y := iZ x) rfl rfl ⟨by omega, by omega⟩ ⟨by omega, by omega⟩).mpr c_3
      refine lv_iconst (v := iZ 0) hx hb dX12_isSign_20 rfl ?_
      exact EPz hx hb hr hlocks (by omega) (by omega) dX12_isSign_21
    ·
      have c_3 := (zeq (x := iZ Mva) (y := iZ x) rfl rfl ⟨by omega, by omega⟩ ⟨by omega, by omega⟩).mp c_3
      refine lv_iconst (v := iZ 1) hx hb dX12_isSign_16 rfl ?_
      refine lv_goto (tgt := 21) hx hb dX12_isSign_17 rfl ?_
      exact EPz hx hb hr hlocks (by omega) (by omega) dX12_isSign_21
set_option maxHeartbeats 4000000 in
set_option maxRecDepth 100000 in
theorem y_wantSign (l : Launch) (D : va_G) (k : Nat → ClassId) (hm : Nat) (Ma : Nat) (Mn : Nat) (Ms : Nat) (My : Nat) (Mt : Nat) (Mp : Nat) (Mx : Nat) (Mo : Nat) (Mk : Nat) (Ml : Nat) (Mb : Nat) (Mh : Nat) (Mc : Nat) (Mz : Nat) (Mr : Nat) (Mq : Nat) (Mst : Int) (Mtd : Int) (Msz : Int) (Mtk : Int) (Mfr : Int) (Men : Int) (Mva : Int) (Mfk : Int) (Mfp : Int) (Mfs : Int) (Mse : Int) (Mlt : Int) (Mdp : Int) (Mct : Int) (Mdr : Int) (Mrs : Int) (Mit : Int) (Mmk : Int) (Mtp : Int64) (Mbt : Int64) (Xf : Nat → Int32) (x : Int) (cu : Int) (hTI : (0 ≤ (Mfr : Int) ∧ (Mfr : Int) ≤ Men) ∧ ((Men : Int) ≤ Msz ∧ (Msz : Int) ≤ 900) ∧ (0 ≤ (Mtk : Int) ∧ (Mtk : Int) ≤ 4) ∧ ((Mtk : Int) ≤ 4 * (Men - Mfr)) ∧ (-1 ≤ (Mva : Int) ∧ (Mva : Int) ≤ 100000)) (hf0 : Mfs = 0) (hrf : RFX (tX Xf Msz) cu Mfr Men Mtk Mva) (h9x : -2147483648 ≤ x ∧ x < 2147483648) : WD (σ := ((Int × Int × Int × Int × Int × Int × Int) × (Int64) × (Unit) × (Unit))) l yX12_wantSign cX12_wantSign 2 (some .boolean) 2 0 0 D k [.ref hm, .int (iZ x)] [(hm, .inr (12, [.ref Ma, .ref Mn, .int (iZ Mst), .long Mtp, .long Mbt, .ref Ms, .ref My, .ref Mt, .ref Mp, .ref Mx, .int (iZ Mtd), .int (iZ Msz), .int (iZ Mtk), .int (iZ Mfr), .int (iZ Men), .int (iZ Mva), .int (iZ Mfk), .int (iZ Mfp), .int (iZ Mfs), .int (iZ Mse), .int (iZ Mlt), .ref Mo, .int (iZ Mdp), .int (iZ Mct), .ref Mk, .ref Ml, .ref Mb, .ref Mh, .ref Mc, .int (iZ Mdr), .int (iZ Mrs), .ref Mz, .ref Mr, .ref Mq, .int (iZ Mit), .int (iZ Mmk)])), (Mx, .inl (k 0, 900, .inl Xf))] (fun u => some (.int (iZ u.1.1))) (fun u => ((0 ≤ (u.1.2.2.1 : Int) ∧ (u.1.2.2.1 : Int) ≤ u.1.2.2.2.1) ∧ ((u.1.2.2.2.1 : Int) ≤ Msz ∧ (Msz : Int) ≤ 900) ∧ (0 ≤ (u.1.2.1 : Int) ∧ (u.1.2.1 : Int) ≤ 4) ∧ ((u.1.2.1 : Int) ≤ 4 * (u.1.2.2.2.1 - u.1.2.2.1)) ∧ (-1 ≤ (u.1.2.2.2.2.1 : Int) ∧ (u.1.2.2.2.2.1 : Int) ≤ 100000)) ∧ (0 ≤ (u.1.2.2.2.2.2.1 : Int) ∧ (u.1.2.2.2.2.2.1 : Int) ≤ 9) ∧ (((u.1.1 : Int) = 1 ∧ ∃ q9 : Int, xTs (tX Xf Msz) x cu = .inr q9 ∧ cu < q9 ∧ RFX (tX Xf Msz) q9 u.1.2.2.1 u.1.2.2.2.1 u.1.2.1 u.1.2.2.2.2.1 ∧ (u.1.2.2.2.2.2.1 : Int) = 0 ∧ u.1.2.2.2.2.2.2 = Mfp) ∨ ((u.1.1 : Int) = 0 ∧ xTs (tX Xf Msz) x cu = .inl (u.1.2.2.2.2.2.1, u.1.2.2.2.2.2.2) ∧ 1 ≤ (u.1.2.2.2.2.2.1 : Int)))) (fun u => [(hm, .inr (12, [.ref Ma, .ref Mn, .int (iZ Mst), .long Mtp, .long Mbt, .ref Ms, .ref My, .ref Mt, .ref Mp, .ref Mx, .int (iZ Mtd), .int (iZ Msz), .int (iZ u.1.2.1), .int (iZ u.1.2.2.1), .int (iZ u.1.2.2.2.1), .int (iZ u.1.2.2.2.2.1), .int (iZ Mfk), .int (iZ u.1.2.2.2.2.2.2), .int (iZ u.1.2.2.2.2.2.1), .int (iZ Mse), .int (iZ Mlt), .ref Mo, .int (iZ Mdp), .int (iZ Mct), .ref Mk, .ref Ml, .ref Mb, .ref Mh, .ref Mc, .int (iZ Mdr), .int (iZ Mrs), .ref Mz, .ref Mr, .ref Mq, .int (iZ Mit), .int (iZ Mmk)])), (Mx, .inl (k 0, 900, .inl Xf))]) := by
  refine MW (by decide) (Nat.le_of_ble_eq_true rfl) (fun p e s m below meth c ls A hx hb hml hr hlocks hin hts hown hKK hP hD hS hA hl => ?_)
  have hK := hKK.1
  have hl : lv_has ls 2 [(0, .ref hm), (1, .int (iZ x))] := hl
  obtain ⟨⟨ar_1, br_1⟩, cr_1, dr_1, er_1, gr_1, hr_1⟩ := id hrf
  have kr_1 := tk_1 dr_1 (xKd_rg _ _)
  have wr_1 := xKw_rg (tX Xf Msz) cu
  refine lv_aload_n hx hb dX12_wantSign_0 rfl (lv_at hl 0 rfl) ?_
  refine lv_iload_n hx hb dX12_wantSign_1 rfl (lv_at hl 1 rfl) ?_
  refine CPV (As := [.int (iZ x)]) (rest := []) hx hb hml hown hts hKK hP (y_isSign l D k hm Ma Mn Ms My Mt Mp Mx Mo Mk Ml Mb Mh Mc Mz Mr Mq Mst Mtd Msz Mtk Mfr Men Mva Mfk Mfp Mfs Mse Mlt Mdp Mct Mdr Mrs Mit Mmk Mtp Mbt Xf x cu ⟨by omega, by omega⟩ (by first | with_reducible assumption | exact ⟨⟨by omega, by omega⟩, ⟨by omega, by omega⟩, ⟨by omega, by omega⟩, by omega, by omega, by omega⟩) hrf) ci_X12_isSign qm_X12_161 ⟨Nat.le_of_ble_eq_true rfl, Nat.le_of_ble_eq_true rfl⟩ ⟨Nat.le_of_ble_eq_true rfl, Nat.le_of_ble_eq_true rfl⟩ 0 rfl rfl rfl hl.1 rfl (Nat.le_of_ble_eq_true rfl) dX12_wantSign_2 (fun z_2 hz_2 => ?_)
  rcases hz_2 with ⟨qz_2, hz_2⟩ | ⟨qz_2, hz_2⟩
  ·
    subst qz_2
    refine lv_if_ne (tgt := 14) hx hb dX12_wantSign_5 rfl (fun _ => ?_) (fun c => absurd c (by decide))
    refine lv_aload_n hx hb dX12_wantSign_14 rfl (lv_at hl 0 rfl) ?_
    refine CWV (As := []) (rest := []) (wc := _) (wr := []) hx hb hml hown hts hKK hP hD hS hA (y_onward l D k hm Ma Mn Ms My Mt Mp Mx Mo Mk Ml Mb Mh Mc Mz Mr Mq Mst Mtd Msz Mtk Mfr Men Mva Mfk Mfp Mfs Mse Mlt Mdp Mct Mdr Mrs Mit Mmk Mtp Mbt Xf ⟨⟨by omega, by omega⟩, by omega⟩) ci_X12_onward qm_X12_158 ⟨Nat.le_of_ble_eq_true rfl, Nat.le_of_ble_eq_true rfl⟩ ⟨Nat.le_of_ble_eq_true rfl, Nat.le_of_ble_eq_true rfl⟩ [0, 1] [] rfl rfl rfl rfl rfl (dj rfl) 0 rfl rfl rfl hl.1 rfl (Nat.le_of_ble_eq_true rfl) dX12_wantSign_15 (fun u_4 H locs hφ hP hD hS => ?_)
    obtain ⟨p_5, p_6, p_7⟩ : (RFX (tX Xf Msz) Men u_4.1.2.2.1 u_4.1.2.2.2.1 u_4.1.2.1 u_4.1.2.2.2.2) ∧ ((0 ≤ (u_4.1.2.2.1 : Int) ∧ (u_4.1.2.2.1 : Int) ≤ u_4.1.2.2.2.1) ∧ ((u_4.1.2.2.2.1 : Int) ≤ Msz ∧ (Msz : Int) ≤ 900) ∧ (0 ≤ (u_4.1.2.1 : Int) ∧ (u_4.1.2.1 : Int) ≤ 4) ∧ ((u_4.1.2.1 : Int) ≤ 4 * (u_4.1.2.2.2.1 - u_4.1.2.2.1)) ∧ (-1 ≤ (u_4.1.2.2.2.2 : Int) ∧ (u_4.1.2.2.2.2 : Int) ≤ 100000)) ∧ (Men ≤ u_4.1.2.2.1) := hφ
    have rx_8 := RFX.nx hrf p_5
    obtain ⟨⟨ar_9, br_9⟩, cr_9, dr_9, er_9, gr_9, hr_9⟩ := id rx_8
    have kr_9 := tk_1 dr_9 (xKd_rg _ _)
    have wr_9 := xKw_rg (tX Xf Msz) (xEn (tX Xf Msz) cu)
    refine W.eq (g2 := F0 m 18 ls []) rfl ?_
    refine lv_iconst (v := iZ 1) hx hb dX12_wantSign_18 rfl ?_
    exact EWz hx hb hr hlocks hS ((1, u_4.1.2.1, u_4.1.2.2.1, u_4.1.2.2.2.1, u_4.1.2.2.2.2, Mfs, Mfp), 0, (), ()) rfl rfl ⟨(show (0 ≤ (u_4.1.2.2.1 : Int) ∧ (u_4.1.2.2.1 : Int) ≤ u_4.1.2.2.2.1) ∧ ((u_4.1.2.2.2.1 : Int) ≤ Msz ∧ (Msz : Int) ≤ 900) ∧ (0 ≤ (u_4.1.2.1 : Int) ∧ (u_4.1.2.1 : Int) ≤ 4) ∧ ((u_4.1.2.1 : Int) ≤ 4 * (u_4.1.2.2.2.1 - u_4.1.2.2.1)) ∧ (-1 ≤ (u_4.1.2.2.2.2 : Int) ∧ (u_4.1.2.2.2.2 : Int) ≤ 100000) from (by first | with_reducible assumption | exact ⟨⟨by omega, by omega⟩, ⟨by omega, by omega⟩, ⟨by omega, by omega⟩, by omega, by omega, by omega⟩)), (show 0 ≤ (Mfs : Int) ∧ (Mfs : Int) ≤ 9 from (by omega)), (show ((1 : Int) = 1 ∧ ∃ q9 : Int, xTs (tX Xf Msz) x cu = .inr q9 ∧ cu < q9 ∧ RFX (tX Xf Msz) q9 u_4.1.2.2.1 u_4.1.2.2.2.1 u_4.1.2.1 u_4.1.2.2.2.2 ∧ (Mfs : Int) = 0 ∧ Mfp = Mfp) ∨ ((1 : Int) = 0 ∧ xTs (tX Xf Msz) x cu = .inl (Mfs, Mfp) ∧ 1 ≤ (Mfs : Int)) from (Or.inl ⟨rfl, xEn (tX Xf Msz) cu, by unfold xTs; rw [if_pos ⟨by omega, by omega⟩], by omega, rx_8, by omega, rfl⟩))⟩ (hP.sub [0, 1] rfl) (hD.sub [0, 1] rfl rfl) dX12_wantSign_19
  ·
    subst qz_2
    refine lv_if_ne (tgt := 14) hx hb dX12_wantSign_5 rfl (fun c => absurd (by decide) c) (fun _ => ?_)
    refine lv_aload_n hx hb dX12_wantSign_8 rfl (lv_at hl 0 rfl) ?_
    refine lv_iconst (v := iZ 2) hx hb dX12_wantSign_9 rfl ?_
    refine CWV (As := [.int (iZ 2)]) (rest := []) (wc := _) (wr := []) hx hb hml hown hts hKK hP hD hS hA (y_fails l D k hm Ma Mn Ms My Mt Mp Mx Mo Mk Ml Mb Mh Mc Mz Mr Mq Mst Mtd Msz Mtk Mfr Men Mva Mfk Mfp Mfs Mse Mlt Mdp Mct Mdr Mrs Mit Mmk Mtp Mbt Xf 2 cu ⟨by omega, by omega⟩ (by omega) hrf) ci_X12_fails qm_X12_164 ⟨Nat.le_of_ble_eq_true rfl, Nat.le_of_ble_eq_true rfl⟩ ⟨Nat.le_of_ble_eq_true rfl, Nat.le_of_ble_eq_true rfl⟩ [0, 1] [] rfl rfl rfl rfl rfl (dj rfl) 0 rfl rfl rfl hl.1 rfl (Nat.le_of_ble_eq_true rfl) dX12_wantSign_10 (fun u_11 H locs hφ hP hD hS => ?_)
    obtain ⟨p_12, p_13⟩ : (u_11.1.2.1 = xFl (tX Xf Msz) cu 2 ∧ u_11.1.2.2 = xPl (tX Xf Msz) cu) ∧ (1 ≤ (u_11.1.2.1 : Int) ∧ (u_11.1.2.1 : Int) ≤ 9) := hφ
    refine W.eq (g2 := F0 m 13 ls [.int (iZ 0)]) rfl ?_
    exact EWz hx hb hr hlocks hS ((0, Mtk, Mfr, Men, Mva, u_11.1.2.1, u_11.1.2.2), 0, (), ()) rfl rfl ⟨(show (0 ≤ (Mfr : Int) ∧ (Mfr : Int) ≤ Men) ∧ ((Men : Int) ≤ Msz ∧ (Msz : Int) ≤ 900) ∧ (0 ≤ (Mtk : Int) ∧ (Mtk : Int) ≤ 4) ∧ ((Mtk : Int) ≤ 4 * (Men - Mfr)) ∧ (-1 ≤ (Mva : Int) ∧ (Mva : Int) ≤ 100000) from (by first | with_reducible assumption | exact ⟨⟨by omega, by omega⟩, ⟨by omega, by omega⟩, ⟨by omega, by omega⟩, by omega, by omega, by omega⟩)), (show 0 ≤ (u_11.1.2.1 : Int) ∧ (u_11.1.2.1 : Int) ≤ 9 from (by omega)), (show ((0 : Int) = 1 ∧ ∃ q9 : Int, xTs (tX Xf Msz) x cu = .inr q9 ∧ cu < q9 ∧ RFX (tX Xf Msz) q9 Mfr Men Mtk Mva ∧ (u_11.1.2.1 : Int) = 0 ∧ u_11.1.2.2 = Mfp) ∨ ((0 : Int) = 0 ∧ xTs (tX Xf Msz) x cu = .inl (u_11.1.2.1, u_11.1.2.2) ∧ 1 ≤ (u_11.1.2.1 : Int)) from (Or.inr ⟨rfl, by unfold xTs xEr; rw [if_neg (by omega), p_12.1, p_12.2], by omega⟩))⟩ (hP.sub [0, 1] rfl) (hD.sub [0, 1] rfl rfl) dX12_wantSign_13
set_option maxHeartbeats 4000000 in
set_option maxRecDepth 100000 in
theorem y_number (l : Launch) (D : va_G) (k : Nat → ClassId) (hm : Nat) (Ma : Nat) (Mn : Nat) (Ms : Nat) (My : Nat) (Mt : Nat) (Mp : Nat) (Mx : Nat) (Mo : Nat) (Mk : Nat) (Ml : Nat) (Mb : Nat) (Mh : Nat) (Mc : Nat) (Mz : Nat) (Mr : Nat) (Mq : Nat) (Mst : Int) (Mtd : Int) (Msz : Int) (Mtk : Int) (Mfr : Int) (Men : Int) (Mva : Int) (Mfk : Int) (Mfp : Int) (Mfs : Int) (Mse : Int) (Mlt : Int) (Mdp : Int) (Mct : Int) (Mdr : Int) (Mrs : Int) (Mit : Int) (Mmk : Int) (Mtp : Int64) (Mbt : Int64) (Xf : Nat → Int32) (Af : Nat → Int32) (x : Int) (y : Int) (w : Int) (cu : Int) (hTI : (0 ≤ (Mfr : Int) ∧ (Mfr : Int) ≤ Men) ∧ ((Men : Int) ≤ Msz ∧ (Msz : Int) ≤ 900) ∧ (0 ≤ (Mtk : Int) ∧ (Mtk : Int) ≤ 4) ∧ ((Mtk : Int) ≤ 4 * (Men - Mfr)) ∧ (-1 ≤ (Mva : Int) ∧ (Mva : Int) ≤ 100000)) (hf0 : Mfs = 0) (hrf : RFX (tX Xf Msz) cu Mfr Men Mtk Mva) (h9x : 0 ≤ x ∧ x < 5340) (h9y : 0 ≤ y ∧ y ≤ 100000) (h9w : -2147483648 ≤ w ∧ w < 2147483648) : WD (σ := ((Int × Int × Int × Int × Int × Int × Int) × (Int64) × ((Nat → Int32)) × (Unit))) l yX12_number cX12_number 4 (some .boolean) 2 0 0 D k [.ref hm, .int (iZ x), .int (iZ y), .int (iZ w)] [(hm, .inr (12, [.ref Ma, .ref Mn, .int (iZ Mst), .long Mtp, .long Mbt, .ref Ms, .ref My, .ref Mt, .ref Mp, .ref Mx, .int (iZ Mtd), .int (iZ Msz), .int (iZ Mtk), .int (iZ Mfr), .int (iZ Men), .int (iZ Mva), .int (iZ Mfk), .int (iZ Mfp), .int (iZ Mfs), .int (iZ Mse), .int (iZ Mlt), .ref Mo, .int (iZ Mdp), .int (iZ Mct), .ref Mk, .ref Ml, .ref Mb, .ref Mh, .ref Mc, .int (iZ Mdr), .int (iZ Mrs), .ref Mz, .ref Mr, .ref Mq, .int (iZ Mit), .int (iZ Mmk)])), (Mx, .inl (k 0, 900, .inl Xf)), (Ma, .inl (k 1, 5340, .inl Af))] (fun u => some (.int (iZ u.1.1))) (fun u => ((0 ≤ (u.1.2.2.1 : Int) ∧ (u.1.2.2.1 : Int) ≤ u.1.2.2.2.1) ∧ ((u.1.2.2.2.1 : Int) ≤ Msz ∧ (Msz : Int) ≤ 900) ∧ (0 ≤ (u.1.2.1 : Int) ∧ (u.1.2.1 : Int) ≤ 4) ∧ ((u.1.2.1 : Int) ≤ 4 * (u.1.2.2.2.1 - u.1.2.2.1)) ∧ (-1 ≤ (u.1.2.2.2.2.1 : Int) ∧ (u.1.2.2.2.2.1 : Int) ≤ 100000)) ∧ (0 ≤ (u.1.2.2.2.2.2.1 : Int) ∧ (u.1.2.2.2.2.2.1 : Int) ≤ 9) ∧ (((u.1.1 : Int) = 1 ∧ ∃ (q9 v9 : Int), xTn (tX Xf Msz) y w cu = .inr (q9, v9) ∧ cu < q9 ∧ RFX (tX Xf Msz) q9 u.1.2.2.1 u.1.2.2.2.1 u.1.2.1 u.1.2.2.2.2.1 ∧ (y ≤ v9 ∧ v9 ≤ w) ∧ u.2.2.1 = upd Af (iZ x).toNatClampNeg (iZ v9) ∧ (u.1.2.2.2.2.2.1 : Int) = 0 ∧ u.1.2.2.2.2.2.2 = Mfp) ∨ ((u.1.1 : Int) = 0 ∧ xTn (tX Xf Msz) y w cu = .inl (u.1.2.2.2.2.2.1, u.1.2.2.2.2.2.2) ∧ 1 ≤ (u.1.2.2.2.2.2.1 : Int))) ∧ ((u.1.1 : Int) = 0 → u.2.2.1 = Af)) (fun u => [(hm, .inr (12, [.ref Ma, .ref Mn, .int (iZ Mst), .long Mtp, .long Mbt, .ref Ms, .ref My, .ref Mt, .ref Mp, .ref Mx, .int (iZ Mtd), .int (iZ Msz), .int (iZ u.1.2.1), .int (iZ u.1.2.2.1), .int (iZ u.1.2.2.2.1), .int (iZ u.1.2.2.2.2.1), .int (iZ Mfk), .int (iZ u.1.2.2.2.2.2.2), .int (iZ u.1.2.2.2.2.2.1), .int (iZ Mse), .int (iZ Mlt), .ref Mo, .int (iZ Mdp), .int (iZ Mct), .ref Mk, .ref Ml, .ref Mb, .ref Mh, .ref Mc, .int (iZ Mdr), .int (iZ Mrs), .ref Mz, .ref Mr, .ref Mq, .int (iZ Mit), .int (iZ Mmk)])), (Mx, .inl (k 0, 900, .inl Xf)), (Ma, .inl (k 1, 5340, .inl u.2.2.1))]) := by
  refine MW (by decide) (Nat.le_of_ble_eq_true rfl) (fun p e s m below meth c ls A hx hb hml hr hlocks hin hts hown hKK hP hD hS hA hl => ?_)
  have hK := hKK.1
  have hl : lv_has ls 4 [(0, .ref hm), (1, .int (iZ x)), (2, .int (iZ y)), (3, .int (iZ w))] := hl
  obtain ⟨⟨ar_1, br_1⟩, cr_1, dr_1, er_1, gr_1, hr_1⟩ := id hrf
  have kr_1 := tk_1 dr_1 (xKd_rg _ _)
  have wr_1 := xKw_rg (tX Xf Msz) cu
  refine lv_aload_n hx hb dX12_number_0 rfl (lv_at hl 0 rfl) ?_
  refine va_get (D := D) (ci := 12) (v := .int (iZ Mtk)) (C := RX12) (T := TX12) (N := 36) hx hb hts iX12 hown hK hP 0 rfl rfl 12 (bl rfl) (hts _ qf_X12_127) (fun _ h => h) rfl dX12_number_1 ?_
  refine lv_iconst (v := iZ 3) hx hb dX12_number_4 rfl ?_
  refine lv_icmp_eq (tgt := 14) hx hb dX12_number_5 rfl (fun c_2 => ?_) (fun c_2 => ?_)
  ·
    have c_2 := (zeq (x := iZ Mtk) (y := iZ 3) rfl rfl ⟨by omega, by omega⟩ wn_3).mp c_2
    refine lv_aload_n hx hb dX12_number_14 rfl (lv_at hl 0 rfl) ?_
    refine va_get (D := D) (ci := 12) (v := .int (iZ Mva)) (C := RX12) (T := TX12) (N := 36) hx hb hts iX12 hown hK hP 0 rfl rfl 15 (bl rfl) (hts _ qf_X12_124) (fun _ h => h) rfl dX12_number_15 ?_
    refine lv_iload_n hx hb dX12_number_18 rfl (lv_at hl 2 rfl) ?_
    refine lv_icmp_lt (tgt := 30) hx hb dX12_number_19 rfl (fun c_3 => ?_) (fun c_3 => ?_)
    ·
      have c_3 := (zlt (x := iZ Mva) (y := iZ y) rfl rfl ⟨by omega, by omega⟩ ⟨by omega, by omega⟩).mp c_3
      refine lv_aload_n hx hb dX12_number_30 rfl (lv_at hl 0 rfl) ?_
      refine lv_iconst (v := iZ 4) hx hb dX12_number_31 rfl ?_
      refine CWV (As := [.int (iZ 4)]) (rest := []) (wc := _) (wr := [(Ma, .inl (k 1, 5340, .inl Af))]) hx hb hml hown hts hKK hP hD hS hA (y_fails l D k hm Ma Mn Ms My Mt Mp Mx Mo Mk Ml Mb Mh Mc Mz Mr Mq Mst Mtd Msz Mtk Mfr Men Mva Mfk Mfp Mfs Mse Mlt Mdp Mct Mdr Mrs Mit Mmk Mtp Mbt Xf 4 cu ⟨by omega, by omega⟩ (by omega) hrf) ci_X12_fails qm_X12_164 ⟨Nat.le_of_ble_eq_true rfl, Nat.le_of_ble_eq_true rfl⟩ ⟨Nat.le_of_ble_eq_true rfl, Nat.le_of_ble_eq_true rfl⟩ [0, 1] [2] rfl rfl rfl rfl rfl (dj rfl) 0 rfl rfl rfl hl.1 rfl (Nat.le_of_ble_eq_true rfl) dX12_number_32 (fun u_4 H locs hφ hP hD hS => ?_)
      obtain ⟨p_5, p_6⟩ : (u_4.1.2.1 = xFl (tX Xf Msz) cu 4 ∧ u_4.1.2.2 = xPl (tX Xf Msz) cu) ∧ (1 ≤ (u_4.1.2.1 : Int) ∧ (u_4.1.2.1 : Int) ≤ 9) := hφ
      refine W.eq (g2 := F0 m 35 ls [.int (iZ 0)]) rfl ?_
      exact EWz hx hb hr hlocks hS ((0, Mtk, Mfr, Men, Mva, u_4.1.2.1, u_4.1.2.2), 0, Af, ()) rfl rfl ⟨(show (0 ≤ (Mfr : Int) ∧ (Mfr : Int) ≤ Men) ∧ ((Men : Int) ≤ Msz ∧ (Msz : Int) ≤ 900) ∧ (0 ≤ (Mtk : Int) ∧ (Mtk : Int) ≤ 4) ∧ ((Mtk : Int) ≤ 4 * (Men - Mfr)) ∧ (-1 ≤ (Mva : Int) ∧ (Mva : Int) ≤ 100000) from (by first | with_reducible assumption | exact ⟨⟨by omega, by omega⟩, ⟨by omega, by omega⟩, ⟨by omega, by omega⟩, by omega, by omega, by omega⟩)), (show 0 ≤ (u_4.1.2.1 : Int) ∧ (u_4.1.2.1 : Int) ≤ 9 from (by omega)), (show ((0 : Int) = 1 ∧ ∃ (q9 v9 : Int), xTn (tX Xf Msz) y w cu = .inr (q9, v9) ∧ cu < q9 ∧ RFX (tX Xf Msz) q9 Mfr Men Mtk Mva ∧ (y ≤ v9 ∧ v9 ≤ w) ∧ Af = upd Af (iZ x).toNatClampNeg (iZ v9) ∧ (u_4.1.2.1 : Int) = 0 ∧ u_4.1.2.2 = Mfp) ∨ ((0 : Int) = 0 ∧ xTn (tX Xf Msz) y w cu = .inl (u_4.1.2.1, u_4.1.2.2) ∧ 1 ≤ (u_4.1.2.1 : Int)) from (Or.inr ⟨rfl, by unfold xTn xEr; rw [if_neg (by omega)]; first | (rw [if_pos (show xKd (tX Xf Msz) cu = 2 from (by omega)), p_5.1, p_5.2]) | (rw [if_neg (show ¬ xKd (tX Xf Msz) cu = 2 from (by omega)), p_5.1, p_5.2]), by omega⟩)), (show (0 : Int) = 0 → Af = Af from (fun _ => rfl))⟩ (hP.sub [1, 2, 0] rfl) (hD.sub [1, 2, 0] rfl rfl) dX12_number_35
    ·
      have c_3 := mt (zlt (x := iZ Mva) (y := iZ y) rfl rfl ⟨by omega, by omega⟩ ⟨by omega, by omega⟩).mpr c_3
      refine lv_aload_n hx hb dX12_number_22 rfl (lv_at hl 0 rfl) ?_
      refine va_get (D := D) (ci := 12) (v := .int (iZ Mva)) (C := RX12) (T := TX12) (N := 36) hx hb hts iX12 hown hK hP 0 rfl rfl 15 (bl rfl) (hts _ qf_X12_124) (fun _ h => h) rfl dX12_number_23 ?_
      refine lv_iload_n hx hb dX12_number_26 rfl (lv_at hl 3 rfl) ?_
      refine lv_icmp_le (tgt := 36) hx hb dX12_number_27 rfl (fun c_7 => ?_) (fun c_7 => ?_)
      ·
        have c_7 := (zle (x := iZ Mva) (y := iZ w) rfl rfl ⟨by omega, by omega⟩ ⟨by omega, by omega⟩).mp c_7
        refine lv_aload_n hx hb dX12_number_36 rfl (lv_at hl 0 rfl) ?_
        refine va_get (D := D) (ci := 12) (v := .ref Ma) (C := RX12) (T := TX12) (N := 36) hx hb hts iX12 hown hK hP 0 rfl rfl 0 (bl rfl) (hts _ qf_X12_7) (fun _ h => h) rfl dX12_number_37 ?_
        refine lv_iload_n hx hb dX12_number_40 rfl (lv_at hl 1 rfl) ?_
        refine lv_aload_n hx hb dX12_number_41 rfl (lv_at hl 0 rfl) ?_
        refine va_get (D := D) (ci := 12) (v := .int (iZ Mva)) (C := RX12) (T := TX12) (N := 36) hx hb hts iX12 hown hK hP 0 rfl rfl 15 (bl rfl) (hts _ qf_X12_124) (fun _ h => h) rfl dX12_number_42 ?_
        refine va_iast hx hb hK hP hD hS 2 1 rfl rfl (zin (e := x) (n := 5340) ⟨by omega, by omega⟩ (bl rfl)) dX12_number_45 (fun H locs hP hD hS => ?_)
        obtain ⟨f_8, hf_8⟩ : ∃ gg9, gg9 = upd Af (iZ x).toNatClampNeg (iZ Mva) := ⟨_, rfl⟩
        rw [← hf_8] at hP hD
        refine lv_aload_n hx hb dX12_number_46 rfl (lv_at hl 0 rfl) ?_
        refine CWV (As := []) (rest := []) (wc := _) (wr := [(Ma, .inl (k 1, 5340, .inl f_8))]) hx hb hml hown hts hKK hP hD hS hA (y_onward l D k hm Ma Mn Ms My Mt Mp Mx Mo Mk Ml Mb Mh Mc Mz Mr Mq Mst Mtd Msz Mtk Mfr Men Mva Mfk Mfp Mfs Mse Mlt Mdp Mct Mdr Mrs Mit Mmk Mtp Mbt Xf ⟨⟨by omega, by omega⟩, by omega⟩) ci_X12_onward qm_X12_158 ⟨Nat.le_of_ble_eq_true rfl, Nat.le_of_ble_eq_true rfl⟩ ⟨Nat.le_of_ble_eq_true rfl, Nat.le_of_ble_eq_true rfl⟩ [0, 1] [2] rfl rfl rfl rfl rfl (dj rfl) 0 rfl rfl rfl hl.1 rfl (Nat.le_of_ble_eq_true rfl) dX12_number_47 (fun u_9 H locs hφ hP hD hS => ?_)
        obtain ⟨p_10, p_11, p_12⟩ : (RFX (tX Xf Msz) Men u_9.1.2.2.1 u_9.1.2.2.2.1 u_9.1.2.1 u_9.1.2.2.2.2) ∧ ((0 ≤ (u_9.1.2.2.1 : Int) ∧ (u_9.1.2.2.1 : Int) ≤ u_9.1.2.2.2.1) ∧ ((u_9.1.2.2.2.1 : Int) ≤ Msz ∧ (Msz : Int) ≤ 900) ∧ (0 ≤ (u_9.1.2.1 : Int) ∧ (u_9.1.2.1 : Int) ≤ 4) ∧ ((u_9.1.2.1 : Int) ≤ 4 * (u_9.1.2.2.2.1 - u_9.1.2.2.1)) ∧ (-1 ≤ (u_9.1.2.2.2.2 : Int) ∧ (u_9.1.2.2.2.2 : Int) ≤ 100000)) ∧ (Men ≤ u_9.1.2.2.1) := hφ
        have rx_13 := RFX.nx hrf p_10
        obtain ⟨⟨ar_14, br_14⟩, cr_14, dr_14, er_14, gr_14, hr_14⟩ := id rx_13
        have kr_14 := tk_1 dr_14 (xKd_rg _ _)
        have wr_14 := xKw_rg (tX Xf Msz) (xEn (tX Xf Msz) cu)
        refine W.eq (g2 := F0 m 50 ls []) rfl ?_
        refine lv_iconst (v := iZ 1) hx hb dX12_number_50 rfl ?_
        exact EWz hx hb hr hlocks hS ((1, u_9.1.2.1, u_9.1.2.2.1, u_9.1.2.2.2.1, u_9.1.2.2.2.2, Mfs, Mfp), 0, f_8, ()) rfl rfl ⟨(show (0 ≤ (u_9.1.2.2.1 : Int) ∧ (u_9.1.2.2.1 : Int) ≤ u_9.1.2.2.2.1) ∧ ((u_9.1.2.2.2.1 : Int) ≤ Msz ∧ (Msz : Int) ≤ 900) ∧ (0 ≤ (u_9.1.2.1 : Int) ∧ (u_9.1.2.1 : Int) ≤ 4) ∧ ((u_9.1.2.1 : Int) ≤ 4 * (u_9.1.2.2.2.1 - u_9.1.2.2.1)) ∧ (-1 ≤ (u_9.1.2.2.2.2 : Int) ∧ (u_9.1.2.2.2.2 : Int) ≤ 100000) from (by first | with_reducible assumption | exact ⟨⟨by omega, by omega⟩, ⟨by omega, by omega⟩, ⟨by omega, by omega⟩, by omega, by omega, by omega⟩)), (show 0 ≤ (Mfs : Int) ∧ (Mfs : Int) ≤ 9 from (by omega)), (show ((1 : Int) = 1 ∧ ∃ (q9 v9 : Int), xTn (tX Xf Msz) y w cu = .inr (q9, v9) ∧ cu < q9 ∧ RFX (tX Xf Msz) q9 u_9.1.2.2.1 u_9.1.2.2.2.1 u_9.1.2.1 u_9.1.2.2.2.2 ∧ (y ≤ v9 ∧ v9 ≤ w) ∧ f_8 = upd Af (iZ x).toNatClampNeg (iZ v9) ∧ (Mfs : Int) = 0 ∧ Mfp = Mfp) ∨ ((1 : Int) = 0 ∧ xTn (tX Xf Msz) y w cu = .inl (Mfs, Mfp) ∧ 1 ≤ (Mfs : Int)) from (Or.inl ⟨rfl, xEn (tX Xf Msz) cu, Mva, by unfold xTn; rw [if_pos ⟨by omega, by omega, by omega⟩, show xVl (tX Xf Msz) cu = Mva from (by omega)], by omega, rx_13, ⟨by omega, by omega⟩, hf_8, by omega, rfl⟩)), (show (1 : Int) = 0 → f_8 = Af from (fun h => absurd (show (1 : Int) = 0 from h) (by decide)))⟩ (hP.sub [1, 2, 0] rfl) (hD.sub [1, 2, 0] rfl rfl) dX12_number_51
      ·
        have c_7 := mt (zle (x := iZ Mva) (y := iZ w) rfl rfl ⟨by omega, by omega⟩ ⟨by omega, by omega⟩).mpr c_7
        refine lv_aload_n hx hb dX12_number_30 rfl (lv_at hl 0 rfl) ?_
        refine lv_iconst (v := iZ 4) hx hb dX12_number_31 rfl ?_
        refine CWV (As := [.int (iZ 4)]) (rest := []) (wc := _) (wr := [(Ma, .inl (k 1, 5340, .inl Af))]) hx hb hml hown hts hKK hP hD hS hA (y_fails l D k hm Ma Mn Ms My Mt Mp Mx Mo Mk Ml Mb Mh Mc Mz Mr Mq Mst Mtd Msz Mtk Mfr Men Mva Mfk Mfp Mfs Mse Mlt Mdp Mct Mdr Mrs Mit Mmk Mtp Mbt Xf 4 cu ⟨by omega, by omega⟩ (by omega) hrf) ci_X12_fails qm_X12_164 ⟨Nat.le_of_ble_eq_true rfl, Nat.le_of_ble_eq_true rfl⟩ ⟨Nat.le_of_ble_eq_true rfl, Nat.le_of_ble_eq_true rfl⟩ [0, 1] [2] rfl rfl rfl rfl rfl (dj rfl) 0 rfl rfl rfl hl.1 rfl (Nat.le_of_ble_eq_true rfl) dX12_number_32 (fun u_15 H locs hφ hP hD hS => ?_)
        obtain ⟨p_16, p_17⟩ : (u_15.1.2.1 = xFl (tX Xf Msz) cu 4 ∧ u_15.1.2.2 = xPl (tX Xf Msz) cu) ∧ (1 ≤ (u_15.1.2.1 : Int) ∧ (u_15.1.2.1 : Int) ≤ 9) := hφ
        refine W.eq (g2 := F0 m 35 ls [.int (iZ 0)]) rfl ?_
        exact EWz hx hb hr hlocks hS ((0, Mtk, Mfr, Men, Mva, u_15.1.2.1, u_15.1.2.2), 0, Af, ()) rfl rfl ⟨(show (0 ≤ (Mfr : Int) ∧ (Mfr : Int) ≤ Men) ∧ ((Men : Int) ≤ Msz ∧ (Msz : Int) ≤ 900) ∧ (0 ≤ (Mtk : Int) ∧ (Mtk : Int) ≤ 4) ∧ ((Mtk : Int) ≤ 4 * (Men - Mfr)) ∧ (-1 ≤ (Mva : Int) ∧ (Mva : Int) ≤ 100000) from (by first | with_reducible assumption | exact ⟨⟨by omega, by omega⟩, ⟨by omega, by omega⟩, ⟨by omega, by omega⟩, by omega, by omega, by omega⟩)), (show 0 ≤ (u_15.1.2.1 : Int) ∧ (u_15.1.2.1 : Int) ≤ 9 from (by omega)), (show ((0 : Int) = 1 ∧ ∃ (q9 v9 : Int), xTn (tX Xf Msz) y w cu = .inr (q9, v9) ∧ cu < q9 ∧ RFX (tX Xf Msz) q9 Mfr Men Mtk Mva ∧ (y ≤ v9 ∧ v9 ≤ w) ∧ Af = upd Af (iZ x).toNatClampNeg (iZ v9) ∧ (u_15.1.2.1 : Int) = 0 ∧ u_15.1.2.2 = Mfp) ∨ ((0 : Int) = 0 ∧ xTn (tX Xf Msz) y w cu = .inl (u_15.1.2.1, u_15.1.2.2) ∧ 1 ≤ (u_15.1.2.1 : Int)) from (Or.inr ⟨rfl, by unfold xTn xEr; rw [if_neg (by omega)]; first | (rw [if_pos (show xKd (tX Xf Msz) cu = 2 from (by omega)), p_16.1, p_16.2]) | (rw [if_neg (show ¬ xKd (tX Xf Msz) cu = 2 from (by omega)), p_16.1, p_16.2]), by omega⟩)), (show (0 : Int) = 0 → Af = Af from (fun _ => rfl))⟩ (hP.sub [1, 2, 0] rfl) (hD.sub [1, 2, 0] rfl rfl) dX12_number_35
  ·
    have c_2 := mt (zeq (x := iZ Mtk) (y := iZ 3) rfl rfl ⟨by omega, by omega⟩ wn_3).mpr c_2
    refine lv_aload_n hx hb dX12_number_8 rfl (lv_at hl 0 rfl) ?_
    refine lv_iconst (v := iZ 2) hx hb dX12_number_9 rfl ?_
    refine CWV (As := [.int (iZ 2)]) (rest := []) (wc := _) (wr := [(Ma, .inl (k 1, 5340, .inl Af))]) hx hb hml hown hts hKK hP hD hS hA (y_fails l D k hm Ma Mn Ms My Mt Mp Mx Mo Mk Ml Mb Mh Mc Mz Mr Mq Mst Mtd Msz Mtk Mfr Men Mva Mfk Mfp Mfs Mse Mlt Mdp Mct Mdr Mrs Mit Mmk Mtp Mbt Xf 2 cu ⟨by omega, by omega⟩ (by omega) hrf) ci_X12_fails qm_X12_164 ⟨Nat.le_of_ble_eq_true rfl, Nat.le_of_ble_eq_true rfl⟩ ⟨Nat.le_of_ble_eq_true rfl, Nat.le_of_ble_eq_true rfl⟩ [0, 1] [2] rfl rfl rfl rfl rfl (dj rfl) 0 rfl rfl rfl hl.1 rfl (Nat.le_of_ble_eq_true rfl) dX12_number_10 (fun u_18 H locs hφ hP hD hS => ?_)
    obtain ⟨p_19, p_20⟩ : (u_18.1.2.1 = xFl (tX Xf Msz) cu 2 ∧ u_18.1.2.2 = xPl (tX Xf Msz) cu) ∧ (1 ≤ (u_18.1.2.1 : Int) ∧ (u_18.1.2.1 : Int) ≤ 9) := hφ
    refine W.eq (g2 := F0 m 13 ls [.int (iZ 0)]) rfl ?_
    exact EWz hx hb hr hlocks hS ((0, Mtk, Mfr, Men, Mva, u_18.1.2.1, u_18.1.2.2), 0, Af, ()) rfl rfl ⟨(show (0 ≤ (Mfr : Int) ∧ (Mfr : Int) ≤ Men) ∧ ((Men : Int) ≤ Msz ∧ (Msz : Int) ≤ 900) ∧ (0 ≤ (Mtk : Int) ∧ (Mtk : Int) ≤ 4) ∧ ((Mtk : Int) ≤ 4 * (Men - Mfr)) ∧ (-1 ≤ (Mva : Int) ∧ (Mva : Int) ≤ 100000) from (by first | with_reducible assumption | exact ⟨⟨by omega, by omega⟩, ⟨by omega, by omega⟩, ⟨by omega, by omega⟩, by omega, by omega, by omega⟩)), (show 0 ≤ (u_18.1.2.1 : Int) ∧ (u_18.1.2.1 : Int) ≤ 9 from (by omega)), (show ((0 : Int) = 1 ∧ ∃ (q9 v9 : Int), xTn (tX Xf Msz) y w cu = .inr (q9, v9) ∧ cu < q9 ∧ RFX (tX Xf Msz) q9 Mfr Men Mtk Mva ∧ (y ≤ v9 ∧ v9 ≤ w) ∧ Af = upd Af (iZ x).toNatClampNeg (iZ v9) ∧ (u_18.1.2.1 : Int) = 0 ∧ u_18.1.2.2 = Mfp) ∨ ((0 : Int) = 0 ∧ xTn (tX Xf Msz) y w cu = .inl (u_18.1.2.1, u_18.1.2.2) ∧ 1 ≤ (u_18.1.2.1 : Int)) from (Or.inr ⟨rfl, by unfold xTn xEr; rw [if_neg (by omega)]; first | (rw [if_pos (show xKd (tX Xf Msz) cu = 2 from (by omega)), p_19.1, p_19.2]) | (rw [if_neg (show ¬ xKd (tX Xf Msz) cu = 2 from (by omega)), p_19.1, p_19.2]), by omega⟩)), (show (0 : Int) = 0 → Af = Af from (fun _ => rfl))⟩ (hP.sub [1, 2, 0] rfl) (hD.sub [1, 2, 0] rfl rfl) dX12_number_13
end
