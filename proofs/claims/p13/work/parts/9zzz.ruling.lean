section
theorem gs_34 {e : EV_} {A g : Nat → Int32} (h : rL g = gsF e (rL A)) (hw : gz A 3 < 400) : gz g 3 = gz A 3 + 1 ∧ gz g 4 = gz A 4 := by
  have h2 : rL g = (gz A 3 + 1, gz A 4, xUp (cut (gz A 3 + 1) (gz (sh A 118))) (gz A 3 + 1) (nxV e (gz A 3) (cut (gz A 3 + 1) (gz (sh A 118)))), cut (gz A 4) (gz (st2 A 78)), cut (gz A 4) (gz (st2 A 79))) := h.trans (if_pos hw)
  exact ⟨congrArg (fun x : LS_ => x.1) h2, congrArg (fun x : LS_ => x.2.1) h2⟩
section DO
variable {e : EV_} {P : PR_} {k d s m we tu o0 a b i z R1 R2 R3 d1 : Int} {L0 L1 : LS_} {q : Int → Int}
theorem do_15 (hw : P.2.1 k = 15) (ha : P.2.2.1 k = a) (hp : L1 = plF e i L0) (h1 : L1.1 = L0.1 + i) (hi : 0 ≤ i ∧ i ≤ a) (hz : (i = a ∧ z = 1) ∨ (i < a ∧ z = 0 ∧ ¬ L1.1 < 400)) (hr : R1 = we + i) : yT e P (k, L0, q, d, s, m, we, tu, o0, 0) = (k + 1, L1, q, d, s, m + (1 - z), R1, tu, o0, 0) := by
  have key : plF e a L0 = L1 := by
    rcases hz with h | h
    · rw [← h.1]; exact hp.symm
    · rw [plF_top hi (by rw [← hp]; exact h.2.2)]; exact hp.symm
  rw [yT_15 hw, ha, key]
  exact rs_eq rfl rfl rfl rfl rfl (by split <;> omega) (by omega) rfl rfl rfl
theorem do_16 (hw : P.2.1 k = 16) (ha : P.2.2.1 k = a) (hb : P.2.2.2.1 k = b) (h : L1 = dsF a b L0) : yT e P (k, L0, q, d, s, m, we, tu, o0, 0) = (k + 1, L1, q, d, s, m + (1 - 1), we, tu, o0, 0) := by
  rw [yT_16 hw, ha, hb, ← h]
  exact rs_eq rfl rfl rfl rfl rfl (by omega) rfl rfl rfl rfl
theorem do_17 (hw : P.2.1 k = 17) (ha : P.2.2.1 k = a) (hz : (z = 1 ∧ L0.2.1 < 20 ∧ L1 = odF a L0 ∧ R3 = o0 + 1) ∨ (z = 0 ∧ ¬ L0.2.1 < 20 ∧ L1 = L0 ∧ R3 = o0)) : yT e P (k, L0, q, d, s, m, we, tu, o0, 0) = (k + 1, L1, q, d, s, m + (1 - z), we, tu, R3, 0) := by
  rw [yT_17 hw, ha]
  rcases hz with ⟨h1, h2, h3, h4⟩ | ⟨h1, h2, h3, h4⟩
  · rw [if_pos h2, ← h3]
    exact rs_eq rfl rfl rfl rfl rfl (by omega) rfl rfl (by omega) rfl
  · rw [if_neg h2, h3]
    exact rs_eq rfl rfl rfl rfl rfl (by omega) rfl rfl (by omega) rfl
theorem do_18 (hw : P.2.1 k = 18) (ha : P.2.2.1 k = a) (h : L1 = chF e d a L0) (hd : d1 = drN d e.1.toNat) (hr : R2 = tu + chN d a e.1.toNat) : yT e P (k, L0, q, d, s, m, we, tu, o0, 0) = (k + 1, L1, q, d1, s, m + (1 - 1), we, R2, o0, 0) := by
  rw [yT_18 hw, ha, ← h, ← hd, ← hr]
  exact rs_eq rfl rfl rfl rfl rfl (by omega) rfl rfl rfl rfl
end DO
set_option maxHeartbeats 4000000 in
set_option maxRecDepth 100000 in
theorem r_does (l : Launch) (D : va_G) (k : Nat → ClassId) (hm : Nat) (Ma : Nat) (Mn : Nat) (Ms : Nat) (My : Nat) (Mt : Nat) (Mp : Nat) (Mx : Nat) (Mo : Nat) (Mk : Nat) (Ml : Nat) (Mb : Nat) (Mh : Nat) (Mc : Nat) (Mz : Nat) (Mr : Nat) (Mq : Nat) (Mst : Int) (Mtd : Int) (Msz : Int) (Mtk : Int) (Mfr : Int) (Men : Int) (Mva : Int) (Mfk : Int) (Mfp : Int) (Mfs : Int) (Mse : Int) (Mlt : Int) (Mdp : Int) (Mct : Int) (Mdr : Int) (Mrs : Int) (Mit : Int) (Mmk : Int) (Mtp : Int64) (Mbt : Int64) (Af : Nat → Int32) (Rf : Nat → Int32) (x : Int) (kk : Int) (Pg : PR_) (hM : M0 Af) (hxk : x = (520 + (6 * kk))) (hyM : yRM Af 0 Pg) (hok : okR (gz Af 0) Pg) (hkk : 0 ≤ kk ∧ kk < Pg.1) (hdr : 0 ≤ Mdr ∧ Mdr ≤ 65535) (hrf : ∀ j : Int, 0 ≤ j → j < 5 → 0 ≤ gz Rf j ∧ gz Rf j ≤ 30000) (hw : ¬ Pg.2.1 kk = 23) : WD (σ := ((Int × Int) × (Int64) × ((Nat → Int32) × (Nat → Int32)) × (Unit))) l yX12_does cX12_does 4 (some .boolean) 8 0 0 D k [.ref hm, .int (iZ x)] [(hm, .inr (12, [.ref Ma, .ref Mn, .int (iZ Mst), .long Mtp, .long Mbt, .ref Ms, .ref My, .ref Mt, .ref Mp, .ref Mx, .int (iZ Mtd), .int (iZ Msz), .int (iZ Mtk), .int (iZ Mfr), .int (iZ Men), .int (iZ Mva), .int (iZ Mfk), .int (iZ Mfp), .int (iZ Mfs), .int (iZ Mse), .int (iZ Mlt), .ref Mo, .int (iZ Mdp), .int (iZ Mct), .ref Mk, .ref Ml, .ref Mb, .ref Mh, .ref Mc, .int (iZ Mdr), .int (iZ Mrs), .ref Mz, .ref Mr, .ref Mq, .int (iZ Mit), .int (iZ Mmk)])), (Ma, .inl (k 1, 5340, .inl Af)), (Mr, .inl (k 1, 5, .inl Rf))] (fun u => some (.int (iZ u.1.1))) (fun u => (M0 u.2.2.1.1) ∧ (FR u.2.2.1.1 Af) ∧ (0 ≤ u.1.2 ∧ u.1.2 ≤ 65535) ∧ ((u.1.1 : Int) = 0 ∨ (u.1.1 : Int) = 1) ∧ ((Pg.2.1 kk ≤ 18 ∧ ∀ (q9 : Int → Int) (s9 m9 : Int), yT (eR Af) Pg (kk, rL Af, q9, Mdr, s9, m9, gz Rf 1, gz Rf 2, gz Rf 3, 0) = (kk + 1, rL u.2.2.1.1, q9, u.1.2, s9, m9 + (1 - u.1.1), gz u.2.2.1.2 1, gz u.2.2.1.2 2, gz u.2.2.1.2 3, 0)) ∨ (¬ Pg.2.1 kk ≤ 18 ∧ u.2.2.1.1 = Af ∧ u.1.2 = Mdr ∧ gz u.2.2.1.2 1 = gz Rf 1 ∧ gz u.2.2.1.2 2 = gz Rf 2 ∧ gz u.2.2.1.2 3 = gz Rf 3 ∧ (u.1.1 : Int) = 1)) ∧ (gz u.2.2.1.2 0 = gz Rf 0 ∧ gz u.2.2.1.2 4 = gz Rf 4) ∧ (∀ j : Int, 0 ≤ j → j < 5 → gz Rf j ≤ gz u.2.2.1.2 j ∧ gz u.2.2.1.2 j ≤ gz Rf j + 100)) (fun u => [(hm, .inr (12, [.ref Ma, .ref Mn, .int (iZ Mst), .long Mtp, .long Mbt, .ref Ms, .ref My, .ref Mt, .ref Mp, .ref Mx, .int (iZ Mtd), .int (iZ Msz), .int (iZ Mtk), .int (iZ Mfr), .int (iZ Men), .int (iZ Mva), .int (iZ Mfk), .int (iZ Mfp), .int (iZ Mfs), .int (iZ Mse), .int (iZ Mlt), .ref Mo, .int (iZ Mdp), .int (iZ Mct), .ref Mk, .ref Ml, .ref Mb, .ref Mh, .ref Mc, .int (iZ u.1.2), .int (iZ Mrs), .ref Mz, .ref Mr, .ref Mq, .int (iZ Mit), .int (iZ Mmk)])), (Ma, .inl (k 1, 5340, .inl u.2.2.1.1)), (Mr, .inl (k 1, 5, .inl u.2.2.1.2))]) := by
  refine MW (by decide) (Nat.le_of_ble_eq_true rfl) (fun p e s m below meth c ls A hx hb hml hr hlocks hin hts hown hKK hP hD hS hA hl => ?_)
  have hK := hKK.1
  have hl : lv_has ls 4 [(0, .ref hm), (1, .int (iZ x))] := hl
  obtain ⟨m0, m1, m3, m4, m5, mF, mO, mS⟩ := id hM
  subst hxk
  have hrow := row_r hyM hok hkk
  replace hrow : Unit → _ := fun _ => hrow
  have h5 : gz Af 5 = Pg.1 := hyM.1
  obtain ⟨-, ⟨hn15, hn18, hn17, hn16, hn19⟩, -, -⟩ := hok.2.2 kk hkk.1 hkk.2
  replace hn19 : Unit → _ := fun _ => hn19
  have hst := mS kk (by omega) (by omega)
  have hrf0 := hrf 0 (by omega) (by omega)
  have hrf1 := hrf 1 (by omega) (by omega)
  have hrf2 := hrf 2 (by omega) (by omega)
  have hrf3 := hrf 3 (by omega) (by omega)
  have hrf4 := hrf 4 (by omega) (by omega)
  refine lv_aload_n hx hb dX12_does_0 rfl (lv_at hl 0 rfl) ?_
  refine va_get (D := D) (ci := 12) (v := .ref Ma) (C := RX12) (T := TX12) (N := 36) hx hb hts iX12 hown hK hP 0 rfl rfl 0 (bl rfl) (hts _ qf_X12_7) (fun _ h => h) rfl dX12_does_1 ?_
  refine lv_iload_n hx hb dX12_does_4 rfl (lv_at hl 1 rfl) ?_
  refine lv_iconst (v := iZ 1) hx hb dX12_does_5 rfl ?_
  refine lv_iadd hx hb dX12_does_6 ?_
  refine lv_topi (fun x_1 ex_1 => ?_)
  obtain rfl : x_1 = iZ ((520 + (6 * kk)) + 1) := ex_1.trans (iZ_add (520 + (6 * kk)) 1)
  refine va_iald hx hb hK hP 1 1 rfl rfl (zin (e := ((520 + (6 * kk)) + 1)) (n := 5340) ⟨by omega, by omega⟩ (bl rfl)) dX12_does_7 ?_
  refine lv_topi (fun x_2 ex_2 => ?_)
  obtain rfl : x_2 = iZ (gz Af ((520 + (6 * kk)) + 1)) := ex_2.trans (gz_eq ⟨by omega, by omega⟩)
  have h_3 := gz_rg Af ((520 + (6 * kk)) + 1)
  refine lv_istore_n (lv' := [(2, .int (iZ (gz Af ((520 + (6 * kk)) + 1)))), (0, .ref hm), (1, .int (iZ (520 + (6 * kk))))]) hx hb dX12_does_8 rfl hl (bl rfl) rfl (fun ls hl => ?_)
  refine lv_aload_n hx hb dX12_does_9 rfl (lv_at hl 1 rfl) ?_
  refine va_get (D := D) (ci := 12) (v := .ref Ma) (C := RX12) (T := TX12) (N := 36) hx hb hts iX12 hown hK hP 0 rfl rfl 0 (bl rfl) (hts _ qf_X12_7) (fun _ h => h) rfl dX12_does_10 ?_
  refine lv_iload_n hx hb dX12_does_13 rfl (lv_at hl 2 rfl) ?_
  refine va_iald hx hb hK hP 1 1 rfl rfl (zin (e := (520 + (6 * kk))) (n := 5340) ⟨by omega, by omega⟩ (bl rfl)) dX12_does_14 ?_
  refine lv_topi (fun x_4 ex_4 => ?_)
  obtain rfl : x_4 = iZ (gz Af (520 + (6 * kk))) := ex_4.trans (gz_eq ⟨by omega, by omega⟩)
  have h_5 := gz_rg Af (520 + (6 * kk))
  rcases Classical.em ((gz Af (520 + (6 * kk))) = 15) with c_6 | c_6
  ·
    refine lv_tableIn (tgt := 44) (off := 29) hx hb dX12_does_15 (by rw [iZ_ti ⟨by omega, by omega⟩]; omega) (by rw [iZ_ti ⟨by omega, by omega⟩]; omega) (by rw [iZ_ti ⟨by omega, by omega⟩, c_6]; rfl) (by decide) ?_
    refine lv_iconst (v := iZ 0) hx hb dX12_does_44 rfl ?_
    refine lv_istore_n (lv' := [(3, .int (iZ 0)), (2, .int (iZ (gz Af ((520 + (6 * kk)) + 1)))), (0, .ref hm), (1, .int (iZ (520 + (6 * kk))))]) hx hb dX12_does_45 rfl hl (bl rfl) rfl (fun ls hl => ?_)
    have hA1 : gz Af ((520 + (6 * kk)) + 1) = Pg.2.2.1 kk := (by have h9 := hrow (); omega)
    have hw9 : Pg.2.1 kk = 15 := (by have h9 := hrow (); omega)
    have HL46 : ∀ (fu : Nat) (v3_46 : Int) (Afq46 : Nat → Int32) (Rfq46 : Nat → Int32) (H : Heap) (locs : List Loc) (ls : Array Slot), ((gz Af ((520 + (6 * kk)) + 1) - 1) + 2 - v3_46) < (fu : Int) → ((0 ≤ v3_46 ∧ v3_46 ≤ (gz Af ((520 + (6 * kk)) + 1) - 1) + 1)) → (rL Afq46 = plF (eR Af) v3_46 (rL Af) ∧ gz Afq46 3 = gz Af 3 + v3_46) → (gz Rfq46 1 = gz Rf 1 + v3_46 ∧ gz Rfq46 0 = gz Rf 0 ∧ gz Rfq46 2 = gz Rf 2 ∧ gz Rfq46 3 = gz Rf 3 ∧ gz Rfq46 4 = gz Rf 4) → (M0 Afq46) → (FR Afq46 Af) → va_P D vwCl [(hm, .inr (12, [.ref Ma, .ref Mn, .int (iZ Mst), .long Mtp, .long Mbt, .ref Ms, .ref My, .ref Mt, .ref Mp, .ref Mx, .int (iZ Mtd), .int (iZ Msz), .int (iZ Mtk), .int (iZ Mfr), .int (iZ Men), .int (iZ Mva), .int (iZ Mfk), .int (iZ Mfp), .int (iZ Mfs), .int (iZ Mse), .int (iZ Mlt), .ref Mo, .int (iZ Mdp), .int (iZ Mct), .ref Mk, .ref Ml, .ref Mb, .ref Mh, .ref Mc, .int (iZ Mdr), .int (iZ Mrs), .ref Mz, .ref Mr, .ref Mq, .int (iZ Mit), .int (iZ Mmk)])), (Ma, .inl (k 1, 5340, .inl Afq46)), (Mr, .inl (k 1, 5, .inl Rfq46))] H → va_D A [(hm, .inr (12, [.ref Ma, .ref Mn, .int (iZ Mst), .long Mtp, .long Mbt, .ref Ms, .ref My, .ref Mt, .ref Mp, .ref Mx, .int (iZ Mtd), .int (iZ Msz), .int (iZ Mtk), .int (iZ Mfr), .int (iZ Men), .int (iZ Mva), .int (iZ Mfk), .int (iZ Mfp), .int (iZ Mfs), .int (iZ Mse), .int (iZ Mlt), .ref Mo, .int (iZ Mdp), .int (iZ Mct), .ref Mk, .ref Ml, .ref Mb, .ref Mh, .ref Mc, .int (iZ Mdr), .int (iZ Mrs), .ref Mz, .ref Mr, .ref Mq, .int (iZ Mit), .int (iZ Mmk)])), (Ma, .inl (k 1, 5340, .inl Afq46)), (Mr, .inl (k 1, 5, .inl Rfq46))] → va_S A s.heap H locs → lv_has ls 4 [(3, .int (iZ v3_46)), (2, .int (iZ (gz Af ((520 + (6 * kk)) + 1)))), (0, .ref hm), (1, .int (iZ (520 + (6 * kk))))] → W p l e (rj 8 0 0) s m [.ref hm, .int (iZ (520 + (6 * kk)))].toArray below meth c H locs 0 0 (MQ below (QW (σ := ((Int × Int) × (Int64) × ((Nat → Int32) × (Nat → Int32)) × (Unit))) (fun u => some (.int (iZ u.1.1))) (fun u => (M0 u.2.2.1.1) ∧ (FR u.2.2.1.1 Af) ∧ (0 ≤ u.1.2 ∧ u.1.2 ≤ 65535) ∧ ((u.1.1 : Int) = 0 ∨ (u.1.1 : Int) = 1) ∧ ((Pg.2.1 kk ≤ 18 ∧ ∀ (q9 : Int → Int) (s9 m9 : Int), yT (eR Af) Pg (kk, rL Af, q9, Mdr, s9, m9, gz Rf 1, gz Rf 2, gz Rf 3, 0) = (kk + 1, rL u.2.2.1.1, q9, u.1.2, s9, m9 + (1 - u.1.1), gz u.2.2.1.2 1, gz u.2.2.1.2 2, gz u.2.2.1.2 3, 0)) ∨ (¬ Pg.2.1 kk ≤ 18 ∧ u.2.2.1.1 = Af ∧ u.1.2 = Mdr ∧ gz u.2.2.1.2 1 = gz Rf 1 ∧ gz u.2.2.1.2 2 = gz Rf 2 ∧ gz u.2.2.1.2 3 = gz Rf 3 ∧ (u.1.1 : Int) = 1)) ∧ (gz u.2.2.1.2 0 = gz Rf 0 ∧ gz u.2.2.1.2 4 = gz Rf 4) ∧ (∀ j : Int, 0 ≤ j → j < 5 → gz Rf j ≤ gz u.2.2.1.2 j ∧ gz u.2.2.1.2 j ≤ gz Rf j + 100)) (fun u => [(hm, .inr (12, [.ref Ma, .ref Mn, .int (iZ Mst), .long Mtp, .long Mbt, .ref Ms, .ref My, .ref Mt, .ref Mp, .ref Mx, .int (iZ Mtd), .int (iZ Msz), .int (iZ Mtk), .int (iZ Mfr), .int (iZ Men), .int (iZ Mva), .int (iZ Mfk), .int (iZ Mfp), .int (iZ Mfs), .int (iZ Mse), .int (iZ Mlt), .ref Mo, .int (iZ Mdp), .int (iZ Mct), .ref Mk, .ref Ml, .ref Mb, .ref Mh, .ref Mc, .int (iZ u.1.2), .int (iZ Mrs), .ref Mz, .ref Mr, .ref Mq, .int (iZ Mit), .int (iZ Mmk)])), (Ma, .inl (k 1, 5340, .inl u.2.2.1.1)), (Mr, .inl (k 1, 5, .inl u.2.2.1.2))]) D A) [.ref hm, .int (iZ (520 + (6 * kk)))].toArray s 0 0 A) (F0 m 46 ls []) := by
      intro fu
      induction fu with
      | zero => intro v3_46 Afq46 Rfq46 H locs ls hμ46 hi46 hpl hrw hM46 hF46 hP hD hS hl; exact absurd hμ46 (by omega)
      | succ fu ih46 =>
        intro v3_46 Afq46 Rfq46 H locs ls hμ46 hi46 hpl hrw hM46 hF46 hP hD hS hl
        obtain ⟨m0l46, m1l46, m3l46, m4l46, m5l46, mFl46, mOl46, mSl46⟩ := id hM46
        have frl46 := FR.z hF46
        refine lv_iload_n hx hb dX12_does_46 rfl (lv_at hl 0 rfl) ?_
        refine lv_iload_n hx hb dX12_does_47 rfl (lv_at hl 1 rfl) ?_
        refine lv_icmp_ge (tgt := 76) hx hb dX12_does_48 rfl (fun c_7 => ?_) (fun c_7 => ?_)
        ·
          have c_7 := (zle (x := iZ (gz Af ((520 + (6 * kk)) + 1))) (y := iZ v3_46) rfl rfl (gz_rg Af ((520 + (6 * kk)) + 1)) ⟨by omega, by omega⟩).mp c_7
          refine lv_iconst (v := iZ 1) hx hb dX12_does_76 rfl ?_
          exact EWz hx hb hr hlocks hS ((1, Mdr), 0, (Afq46, Rfq46), ()) rfl rfl ⟨(show M0 Afq46 from hM46), (show FR Afq46 Af from hF46), (show 0 ≤ Mdr ∧ Mdr ≤ 65535 from (by omega)), (show (1 : Int) = 0 ∨ (1 : Int) = 1 from (by omega)), (show (Pg.2.1 kk ≤ 18 ∧ ∀ (q9 : Int → Int) (s9 m9 : Int), yT (eR Af) Pg (kk, rL Af, q9, Mdr, s9, m9, gz Rf 1, gz Rf 2, gz Rf 3, 0) = (kk + 1, rL Afq46, q9, Mdr, s9, m9 + (1 - 1), gz Rfq46 1, gz Rfq46 2, gz Rfq46 3, 0)) ∨ (¬ Pg.2.1 kk ≤ 18 ∧ Afq46 = Af ∧ Mdr = Mdr ∧ gz Rfq46 1 = gz Rf 1 ∧ gz Rfq46 2 = gz Rf 2 ∧ gz Rfq46 3 = gz Rf 3 ∧ (1 : Int) = 1) from (Or.inl ⟨by omega, fun q9 s9 m9 => (do_15 hw9 hA1.symm (i := v3_46) hpl.1 hpl.2 ⟨by omega, by omega⟩ (Or.inl ⟨by omega, rfl⟩) hrw.1).trans (rs_eq rfl rfl rfl rfl rfl rfl (by omega) (by omega) (by omega) rfl)⟩)), (show gz Rfq46 0 = gz Rf 0 ∧ gz Rfq46 4 = gz Rf 4 from (by omega)), (show ∀ j : Int, 0 ≤ j → j < 5 → gz Rf j ≤ gz Rfq46 j ∧ gz Rfq46 j ≤ gz Rf j + 100 from (fun j h1 h2 => by have e9 : j = 0 ∨ j = 1 ∨ j = 2 ∨ j = 3 ∨ j = 4 := (by omega); rcases e9 with rfl | rfl | rfl | rfl | rfl <;> omega))⟩ (hP.sub [0, 1, 2] rfl) (hD.sub [0, 1, 2] rfl rfl) dX12_does_77
        ·
          have c_7 := mt (zle (x := iZ (gz Af ((520 + (6 * kk)) + 1))) (y := iZ v3_46) rfl rfl (gz_rg Af ((520 + (6 * kk)) + 1)) ⟨by omega, by omega⟩).mpr c_7
          refine lv_aload_n hx hb dX12_does_51 rfl (lv_at hl 2 rfl) ?_
          refine CWV (As := []) (rest := []) (wc := _) (wr := [(Mr, .inl (k 1, 5, .inl Rfq46))]) hx hb hml hown hts hKK hP hD hS hA (r_goes l D k ([.ref Ma, .ref Mn, .int (iZ Mst), .long Mtp, .long Mbt, .ref Ms, .ref My, .ref Mt, .ref Mp, .ref Mx, .int (iZ Mtd), .int (iZ Msz), .int (iZ Mtk), .int (iZ Mfr), .int (iZ Men), .int (iZ Mva), .int (iZ Mfk), .int (iZ Mfp), .int (iZ Mfs), .int (iZ Mse), .int (iZ Mlt), .ref Mo, .int (iZ Mdp), .int (iZ Mct), .ref Mk, .ref Ml, .ref Mb, .ref Mh, .ref Mc, .int (iZ Mdr), .int (iZ Mrs), .ref Mz, .ref Mr, .ref Mq, .int (iZ Mit), .int (iZ Mmk)]) hm Ma Afq46 rfl hM46) ci_X12_goes qm_X12_371 ⟨Nat.le_of_ble_eq_true rfl, Nat.le_of_ble_eq_true rfl⟩ ⟨Nat.le_of_ble_eq_true rfl, Nat.le_of_ble_eq_true rfl⟩ [0, 1] [2] rfl rfl rfl rfl rfl (dj rfl) 0 rfl rfl rfl hl.1 rfl (Nat.le_of_ble_eq_true rfl) dX12_does_52 (fun u_8 H locs hφ hP hD hS => ?_)
          obtain ⟨p_9, p_10, p_11⟩ : (M0 u_8.2.2.1) ∧ (FR u_8.2.2.1 Afq46) ∧ (((u_8.1 : Int) = 0 ∧ gz Afq46 3 = 400 ∧ u_8.2.2.1 = Afq46) ∨ ((u_8.1 : Int) = 1 ∧ gz Afq46 3 < 400 ∧ rL u_8.2.2.1 = gsF (eR Afq46) (rL Afq46))) := hφ
          obtain ⟨m0m_12, m1m_12, m3m_12, m4m_12, m5m_12, mFm_12, mOm_12, mSm_12⟩ := id p_9
          have frm_12 := FR.z p_10
          refine W.eq (g2 := F0 m 55 ls [.int (iZ u_8.1)]) rfl ?_
          rcases (show (u_8.1 = 0) ∨ (u_8.1 = 1) from (by omega)) with s_13 | s_13
          ·
            rw [s_13]
            refine lv_if_ne (tgt := 60) hx hb dX12_does_55 rfl (fun c => absurd (by decide) c) (fun _ => ?_)
            refine lv_iconst (v := iZ 0) hx hb dX12_does_58 rfl ?_
            have g9 := (p_11).resolve_right (fun z9 => by have q8 := z9.1; omega)
            exact EWz hx hb hr hlocks hS ((0, Mdr), 0, (u_8.2.2.1, Rfq46), ()) rfl rfl ⟨(show M0 u_8.2.2.1 from p_9), (show FR u_8.2.2.1 Af from (FR.tr p_10 hF46)), (show 0 ≤ Mdr ∧ Mdr ≤ 65535 from (by omega)), (show (0 : Int) = 0 ∨ (0 : Int) = 1 from (by omega)), (show (Pg.2.1 kk ≤ 18 ∧ ∀ (q9 : Int → Int) (s9 m9 : Int), yT (eR Af) Pg (kk, rL Af, q9, Mdr, s9, m9, gz Rf 1, gz Rf 2, gz Rf 3, 0) = (kk + 1, rL u_8.2.2.1, q9, Mdr, s9, m9 + (1 - 0), gz Rfq46 1, gz Rfq46 2, gz Rfq46 3, 0)) ∨ (¬ Pg.2.1 kk ≤ 18 ∧ u_8.2.2.1 = Af ∧ Mdr = Mdr ∧ gz Rfq46 1 = gz Rf 1 ∧ gz Rfq46 2 = gz Rf 2 ∧ gz Rfq46 3 = gz Rf 3 ∧ (0 : Int) = 1) from (Or.inl ⟨by omega, fun q9 s9 m9 => (do_15 hw9 hA1.symm (i := v3_46) (show rL u_8.2.2.1 = plF (eR Af) v3_46 (rL Af) from by rw [g9.2.2]; exact hpl.1) (show gz u_8.2.2.1 3 = gz Af 3 + v3_46 from by rw [g9.2.2]; exact hpl.2) ⟨by omega, by omega⟩ (Or.inr ⟨by omega, rfl, show ¬ gz u_8.2.2.1 3 < 400 from by rw [g9.2.2]; omega⟩) hrw.1).trans (rs_eq rfl rfl rfl rfl rfl rfl (by omega) (by omega) (by omega) rfl)⟩)), (show gz Rfq46 0 = gz Rf 0 ∧ gz Rfq46 4 = gz Rf 4 from (by omega)), (show ∀ j : Int, 0 ≤ j → j < 5 → gz Rf j ≤ gz Rfq46 j ∧ gz Rfq46 j ≤ gz Rf j + 100 from (fun j h1 h2 => by have e9 : j = 0 ∨ j = 1 ∨ j = 2 ∨ j = 3 ∨ j = 4 := (by omega); rcases e9 with rfl | rfl | rfl | rfl | rfl <;> omega))⟩ (hP.sub [1, 2, 0] rfl) (hD.sub [1, 2, 0] rfl rfl) dX12_does_59
          ·
            rw [s_13]
            refine lv_if_ne (tgt := 60) hx hb dX12_does_55 rfl (fun _ => ?_) (fun c => absurd c (by decide))
            have g9 := (p_11).resolve_left (fun z9 => by have q8 := z9.1; omega)
            refine lv_aload_n hx hb dX12_does_60 rfl (lv_at hl 2 rfl) ?_
            refine va_get (D := D) (ci := 12) (v := .ref Mr) (C := RX12) (T := TX12) (N := 36) hx hb hts iX12 hown hK hP 1 rfl rfl 32 (bl rfl) (hts _ qf_X12_65) (fun _ h => h) rfl dX12_does_61 ?_
            refine lv_iconst (v := iZ 1) hx hb dX12_does_64 rfl ?_
            refine lv_dup2_11 hx hb dX12_does_65 rfl rfl ?_
            refine va_iald hx hb hK hP 0 1 rfl rfl (zin (e := 1) (n := 5) ⟨by omega, by omega⟩ (bl rfl)) dX12_does_66 ?_
            refine lv_topi (fun x_16 ex_16 => ?_)
            obtain rfl : x_16 = iZ (gz Rfq46 1) := ex_16.trans (gz_eq ⟨by omega, by omega⟩)
            have h_17 := gz_rg Rfq46 1
            refine lv_iconst (v := iZ 1) hx hb dX12_does_67 rfl ?_
            refine lv_iadd hx hb dX12_does_68 ?_
            refine lv_topi (fun x_18 ex_18 => ?_)
            obtain rfl : x_18 = iZ ((gz Rfq46 1) + 1) := ex_18.trans (iZ_add (gz Rfq46 1) 1)
            refine va_iast hx hb hK hP hD hS 0 1 rfl rfl (zin (e := 1) (n := 5) ⟨by omega, by omega⟩ (bl rfl)) dX12_does_69 (fun H locs hP hD hS => ?_)
            obtain ⟨f_19, hf_19⟩ : ∃ gg9, gg9 = upd Rfq46 (iZ 1).toNatClampNeg (iZ ((gz Rfq46 1) + 1)) := ⟨_, rfl⟩
            rw [← hf_19] at hP hD
            refine lv_iinc (v := iZ (v3_46 + 1)) (lv' := [(3, .int (iZ (v3_46 + 1))), (2, .int (iZ (gz Af ((520 + (6 * kk)) + 1)))), (0, .ref hm), (1, .int (iZ (520 + (6 * kk))))]) hx hb dX12_does_70 hl (k := 0) rfl (iZ_add v3_46 1) (by decide) rfl (fun ls hl => ?_)
            refine lv_goto (tgt := 46) hx hb dX12_does_73 rfl ?_
            exact ih46  (v3_46 + 1) u_8.2.2.1 f_19 _ _ _ (by omega) (show (0 ≤ (v3_46 + 1) ∧ (v3_46 + 1) ≤ (gz Af ((520 + (6 * kk)) + 1) - 1) + 1) from ⟨by omega, by omega⟩) (show rL u_8.2.2.1 = plF (eR Af) (v3_46 + 1) (rL Af) ∧ gz u_8.2.2.1 3 = gz Af 3 + (v3_46 + 1) from ⟨by rw [plF_s (by omega), ← hpl.1, ← eR_fr hM hF46]; exact g9.2.2, by have q9 := gs_34 g9.2.2 g9.2.1; omega⟩) (show gz f_19 1 = gz Rf 1 + (v3_46 + 1) ∧ gz f_19 0 = gz Rf 0 ∧ gz f_19 2 = gz Rf 2 ∧ gz f_19 3 = gz Rf 3 ∧ gz f_19 4 = gz Rf 4 from (by have r90 := gz_up hf_19 ⟨by omega, by omega⟩ ⟨by omega, by omega⟩ (j := 0) (by omega); have r91 := gz_up hf_19 ⟨by omega, by omega⟩ ⟨by omega, by omega⟩ (j := 1) (by omega); have r92 := gz_up hf_19 ⟨by omega, by omega⟩ ⟨by omega, by omega⟩ (j := 2) (by omega); have r93 := gz_up hf_19 ⟨by omega, by omega⟩ ⟨by omega, by omega⟩ (j := 3) (by omega); have r94 := gz_up hf_19 ⟨by omega, by omega⟩ ⟨by omega, by omega⟩ (j := 4) (by omega); omega)) (show M0 u_8.2.2.1 from p_9) (show FR u_8.2.2.1 Af from (FR.tr p_10 hF46)) (hP.sub [1, 2, 0] rfl) (hD.sub [1, 2, 0] rfl rfl) hS (lv_sub hl [0, 1, 2, 3] rfl)
    exact HL46 2147483650 0 Af Rf _ _ _ (by omega) (show (0 ≤ 0 ∧ 0 ≤ (gz Af ((520 + (6 * kk)) + 1) - 1) + 1) from ⟨by omega, by omega⟩) (show rL Af = plF (eR Af) 0 (rL Af) ∧ gz Af 3 = gz Af 3 + 0 from ⟨rfl, by omega⟩) (show gz Rf 1 = gz Rf 1 + 0 ∧ gz Rf 0 = gz Rf 0 ∧ gz Rf 2 = gz Rf 2 ∧ gz Rf 3 = gz Rf 3 ∧ gz Rf 4 = gz Rf 4 from ⟨by omega, rfl, rfl, rfl, rfl⟩) (show M0 Af from hM) (show FR Af Af from (FR.rf Af)) (hP.sub [0, 1, 2] rfl) (hD.sub [0, 1, 2] rfl rfl) hS (lv_sub hl [0, 1, 2, 3] rfl)
  ·
    rcases Classical.em ((gz Af (520 + (6 * kk))) = 16) with c_20 | c_20
    ·
      refine lv_tableIn (tgt := 78) (off := 63) hx hb dX12_does_15 (by rw [iZ_ti ⟨by omega, by omega⟩]; omega) (by rw [iZ_ti ⟨by omega, by omega⟩]; omega) (by rw [iZ_ti ⟨by omega, by omega⟩, c_20]; rfl) (by decide) ?_
      refine lv_aload_n hx hb dX12_does_78 rfl (lv_at hl 1 rfl) ?_
      refine lv_iload_n hx hb dX12_does_79 rfl (lv_at hl 0 rfl) ?_
      refine lv_aload_n hx hb dX12_does_80 rfl (lv_at hl 1 rfl) ?_
      refine va_get (D := D) (ci := 12) (v := .ref Ma) (C := RX12) (T := TX12) (N := 36) hx hb hts iX12 hown hK hP 0 rfl rfl 0 (bl rfl) (hts _ qf_X12_7) (fun _ h => h) rfl dX12_does_81 ?_
      refine lv_iload_n hx hb dX12_does_84 rfl (lv_at hl 2 rfl) ?_
      refine lv_iconst (v := iZ 2) hx hb dX12_does_85 rfl ?_
      refine lv_iadd hx hb dX12_does_86 ?_
      refine lv_topi (fun x_21 ex_21 => ?_)
      obtain rfl : x_21 = iZ ((520 + (6 * kk)) + 2) := ex_21.trans (iZ_add (520 + (6 * kk)) 2)
      refine va_iald hx hb hK hP 1 1 rfl rfl (zin (e := ((520 + (6 * kk)) + 2)) (n := 5340) ⟨by omega, by omega⟩ (bl rfl)) dX12_does_87 ?_
      refine lv_topi (fun x_22 ex_22 => ?_)
      obtain rfl : x_22 = iZ (gz Af ((520 + (6 * kk)) + 2)) := ex_22.trans (gz_eq ⟨by omega, by omega⟩)
      have h_23 := gz_rg Af ((520 + (6 * kk)) + 2)
      refine CWV (As := [.int (iZ (gz Af ((520 + (6 * kk)) + 1))), .int (iZ (gz Af ((520 + (6 * kk)) + 2)))]) (rest := []) (wc := _) (wr := [(Mr, .inl (k 1, 5, .inl Rf))]) hx hb hml hown hts hKK hP hD hS hA (r_wears l D k ([.ref Ma, .ref Mn, .int (iZ Mst), .long Mtp, .long Mbt, .ref Ms, .ref My, .ref Mt, .ref Mp, .ref Mx, .int (iZ Mtd), .int (iZ Msz), .int (iZ Mtk), .int (iZ Mfr), .int (iZ Men), .int (iZ Mva), .int (iZ Mfk), .int (iZ Mfp), .int (iZ Mfs), .int (iZ Mse), .int (iZ Mlt), .ref Mo, .int (iZ Mdp), .int (iZ Mct), .ref Mk, .ref Ml, .ref Mb, .ref Mh, .ref Mc, .int (iZ Mdr), .int (iZ Mrs), .ref Mz, .ref Mr, .ref Mq, .int (iZ Mit), .int (iZ Mmk)]) hm Ma Af (gz Af ((520 + (6 * kk)) + 1)) (gz Af ((520 + (6 * kk)) + 2)) rfl hM) ci_X12_wears qm_X12_374 ⟨Nat.le_of_ble_eq_true rfl, Nat.le_of_ble_eq_true rfl⟩ ⟨Nat.le_of_ble_eq_true rfl, Nat.le_of_ble_eq_true rfl⟩ [0, 1] [2] rfl rfl rfl rfl rfl (dj rfl) 0 rfl rfl rfl hl.1 rfl (Nat.le_of_ble_eq_true rfl) dX12_does_88 (fun u_24 H locs hφ hP hD hS => ?_)
      obtain ⟨p_25, p_26, p_27⟩ : (M0 u_24.2.2.1) ∧ (FR u_24.2.2.1 Af) ∧ (rL u_24.2.2.1 = dsF (gz Af ((520 + (6 * kk)) + 1)) (gz Af ((520 + (6 * kk)) + 2)) (rL Af)) := hφ
      obtain ⟨m0m_28, m1m_28, m3m_28, m4m_28, m5m_28, mFm_28, mOm_28, mSm_28⟩ := id p_25
      have frm_28 := FR.z p_26
      refine W.eq (g2 := F0 m 91 ls []) rfl ?_
      refine lv_iconst (v := iZ 1) hx hb dX12_does_91 rfl ?_
      exact EWz hx hb hr hlocks hS ((1, Mdr), 0, (u_24.2.2.1, Rf), ()) rfl rfl ⟨(show M0 u_24.2.2.1 from p_25), (show FR u_24.2.2.1 Af from p_26), (show 0 ≤ Mdr ∧ Mdr ≤ 65535 from (by omega)), (show (1 : Int) = 0 ∨ (1 : Int) = 1 from (by omega)), (show (Pg.2.1 kk ≤ 18 ∧ ∀ (q9 : Int → Int) (s9 m9 : Int), yT (eR Af) Pg (kk, rL Af, q9, Mdr, s9, m9, gz Rf 1, gz Rf 2, gz Rf 3, 0) = (kk + 1, rL u_24.2.2.1, q9, Mdr, s9, m9 + (1 - 1), gz Rf 1, gz Rf 2, gz Rf 3, 0)) ∨ (¬ Pg.2.1 kk ≤ 18 ∧ u_24.2.2.1 = Af ∧ Mdr = Mdr ∧ gz Rf 1 = gz Rf 1 ∧ gz Rf 2 = gz Rf 2 ∧ gz Rf 3 = gz Rf 3 ∧ (1 : Int) = 1) from (Or.inl ⟨by have h9 := hrow (); omega, fun q9 s9 m9 => (do_16 (by have h9 := hrow (); omega) (by have h9 := hrow (); omega) (by have h9 := hrow (); omega) p_27).trans (rs_eq rfl rfl rfl rfl rfl rfl (by omega) (by omega) (by omega) rfl)⟩)), (show gz Rf 0 = gz Rf 0 ∧ gz Rf 4 = gz Rf 4 from (by omega)), (show ∀ j : Int, 0 ≤ j → j < 5 → gz Rf j ≤ gz Rf j ∧ gz Rf j ≤ gz Rf j + 100 from (fun j h1 h2 => by have e9 : j = 0 ∨ j = 1 ∨ j = 2 ∨ j = 3 ∨ j = 4 := (by omega); rcases e9 with rfl | rfl | rfl | rfl | rfl <;> omega))⟩ (hP.sub [1, 2, 0] rfl) (hD.sub [1, 2, 0] rfl rfl) dX12_does_92
    ·
      rcases Classical.em ((gz Af (520 + (6 * kk))) = 17) with c_29 | c_29
      ·
        refine lv_tableIn (tgt := 93) (off := 78) hx hb dX12_does_15 (by rw [iZ_ti ⟨by omega, by omega⟩]; omega) (by rw [iZ_ti ⟨by omega, by omega⟩]; omega) (by rw [iZ_ti ⟨by omega, by omega⟩, c_29]; rfl) (by decide) ?_
        refine lv_aload_n hx hb dX12_does_93 rfl (lv_at hl 1 rfl) ?_
        refine lv_iload_n hx hb dX12_does_94 rfl (lv_at hl 0 rfl) ?_
        refine CWV (As := [.int (iZ (gz Af ((520 + (6 * kk)) + 1)))]) (rest := []) (wc := _) (wr := [(Mr, .inl (k 1, 5, .inl Rf))]) hx hb hml hown hts hKK hP hD hS hA (r_orders l D k ([.ref Ma, .ref Mn, .int (iZ Mst), .long Mtp, .long Mbt, .ref Ms, .ref My, .ref Mt, .ref Mp, .ref Mx, .int (iZ Mtd), .int (iZ Msz), .int (iZ Mtk), .int (iZ Mfr), .int (iZ Men), .int (iZ Mva), .int (iZ Mfk), .int (iZ Mfp), .int (iZ Mfs), .int (iZ Mse), .int (iZ Mlt), .ref Mo, .int (iZ Mdp), .int (iZ Mct), .ref Mk, .ref Ml, .ref Mb, .ref Mh, .ref Mc, .int (iZ Mdr), .int (iZ Mrs), .ref Mz, .ref Mr, .ref Mq, .int (iZ Mit), .int (iZ Mmk)]) hm Ma Af (gz Af ((520 + (6 * kk)) + 1)) rfl hM ⟨by omega, by omega⟩) ci_X12_orders qm_X12_321 ⟨Nat.le_of_ble_eq_true rfl, Nat.le_of_ble_eq_true rfl⟩ ⟨Nat.le_of_ble_eq_true rfl, Nat.le_of_ble_eq_true rfl⟩ [0, 1] [2] rfl rfl rfl rfl rfl (dj rfl) 0 rfl rfl rfl hl.1 rfl (Nat.le_of_ble_eq_true rfl) dX12_does_95 (fun u_30 H locs hφ hP hD hS => ?_)
        obtain ⟨p_31, p_32, p_33⟩ : (M0 u_30.2.2.1) ∧ (FR u_30.2.2.1 Af) ∧ (((u_30.1 : Int) = 0 ∧ ¬ gz Af 4 < 20 ∧ u_30.2.2.1 = Af) ∨ ((u_30.1 : Int) = 1 ∧ gz Af 4 < 20 ∧ rL u_30.2.2.1 = odF (gz Af ((520 + (6 * kk)) + 1)) (rL Af))) := hφ
        obtain ⟨m0m_34, m1m_34, m3m_34, m4m_34, m5m_34, mFm_34, mOm_34, mSm_34⟩ := id p_31
        have frm_34 := FR.z p_32
        refine W.eq (g2 := F0 m 98 ls [.int (iZ u_30.1)]) rfl ?_
        rcases (show (u_30.1 = 0) ∨ (u_30.1 = 1) from (by omega)) with s_35 | s_35
        ·
          rw [s_35]
          refine lv_if_ne (tgt := 103) hx hb dX12_does_98 rfl (fun c => absurd (by decide) c) (fun _ => ?_)
          refine lv_iconst (v := iZ 0) hx hb dX12_does_101 rfl ?_
          have g9 := (p_33).resolve_right (fun z9 => by have q8 := z9.1; omega)
          exact EWz hx hb hr hlocks hS ((0, Mdr), 0, (u_30.2.2.1, Rf), ()) rfl rfl ⟨(show M0 u_30.2.2.1 from p_31), (show FR u_30.2.2.1 Af from p_32), (show 0 ≤ Mdr ∧ Mdr ≤ 65535 from (by omega)), (show (0 : Int) = 0 ∨ (0 : Int) = 1 from (by omega)), (show (Pg.2.1 kk ≤ 18 ∧ ∀ (q9 : Int → Int) (s9 m9 : Int), yT (eR Af) Pg (kk, rL Af, q9, Mdr, s9, m9, gz Rf 1, gz Rf 2, gz Rf 3, 0) = (kk + 1, rL u_30.2.2.1, q9, Mdr, s9, m9 + (1 - 0), gz Rf 1, gz Rf 2, gz Rf 3, 0)) ∨ (¬ Pg.2.1 kk ≤ 18 ∧ u_30.2.2.1 = Af ∧ Mdr = Mdr ∧ gz Rf 1 = gz Rf 1 ∧ gz Rf 2 = gz Rf 2 ∧ gz Rf 3 = gz Rf 3 ∧ (0 : Int) = 1) from (Or.inl ⟨by have h9 := hrow (); omega, fun q9 s9 m9 => (do_17 (by have h9 := hrow (); omega) (a := gz Af ((520 + (6 * kk)) + 1)) (by have h9 := hrow (); omega) (Or.inr ⟨rfl, g9.2.1, (show rL u_30.2.2.1 = rL Af from by rw [g9.2.2]), rfl⟩)).trans (rs_eq rfl rfl rfl rfl rfl rfl (by omega) (by omega) (by omega) rfl)⟩)), (show gz Rf 0 = gz Rf 0 ∧ gz Rf 4 = gz Rf 4 from (by omega)), (show ∀ j : Int, 0 ≤ j → j < 5 → gz Rf j ≤ gz Rf j ∧ gz Rf j ≤ gz Rf j + 100 from (fun j h1 h2 => by have e9 : j = 0 ∨ j = 1 ∨ j = 2 ∨ j = 3 ∨ j = 4 := (by omega); rcases e9 with rfl | rfl | rfl | rfl | rfl <;> omega))⟩ (hP.sub [1, 2, 0] rfl) (hD.sub [1, 2, 0] rfl rfl) dX12_does_102
        ·
          rw [s_35]
          refine lv_if_ne (tgt := 103) hx hb dX12_does_98 rfl (fun _ => ?_) (fun c => absurd c (by decide))
          refine lv_aload_n hx hb dX12_does_103 rfl (lv_at hl 1 rfl) ?_
          refine va_get (D := D) (ci := 12) (v := .ref Mr) (C := RX12) (T := TX12) (N := 36) hx hb hts iX12 hown hK hP 1 rfl rfl 32 (bl rfl) (hts _ qf_X12_65) (fun _ h => h) rfl dX12_does_104 ?_
          refine lv_iconst (v := iZ 3) hx hb dX12_does_107 rfl ?_
          refine lv_dup2_11 hx hb dX12_does_108 rfl rfl ?_
          refine va_iald hx hb hK hP 0 1 rfl rfl (zin (e := 3) (n := 5) ⟨by omega, by omega⟩ (bl rfl)) dX12_does_109 ?_
          refine lv_topi (fun x_38 ex_38 => ?_)
          obtain rfl : x_38 = iZ (gz Rf 3) := ex_38.trans (gz_eq ⟨by omega, by omega⟩)
          have h_39 := gz_rg Rf 3
          refine lv_iconst (v := iZ 1) hx hb dX12_does_110 rfl ?_
          refine lv_iadd hx hb dX12_does_111 ?_
          refine lv_topi (fun x_40 ex_40 => ?_)
          obtain rfl : x_40 = iZ ((gz Rf 3) + 1) := ex_40.trans (iZ_add (gz Rf 3) 1)
          refine va_iast hx hb hK hP hD hS 0 1 rfl rfl (zin (e := 3) (n := 5) ⟨by omega, by omega⟩ (bl rfl)) dX12_does_112 (fun H locs hP hD hS => ?_)
          obtain ⟨f_41, hf_41⟩ : ∃ gg9, gg9 = upd Rf (iZ 3).toNatClampNeg (iZ ((gz Rf 3) + 1)) := ⟨_, rfl⟩
          rw [← hf_41] at hP hD
          refine lv_iconst (v := iZ 1) hx hb dX12_does_113 rfl ?_
          have g9 := (p_33).resolve_left (fun z9 => by have q8 := z9.1; omega)
          exact EWz hx hb hr hlocks hS ((1, Mdr), 0, (u_30.2.2.1, f_41), ()) rfl rfl ⟨(show M0 u_30.2.2.1 from p_31), (show FR u_30.2.2.1 Af from p_32), (show 0 ≤ Mdr ∧ Mdr ≤ 65535 from (by omega)), (show (1 : Int) = 0 ∨ (1 : Int) = 1 from (by omega)), (show (Pg.2.1 kk ≤ 18 ∧ ∀ (q9 : Int → Int) (s9 m9 : Int), yT (eR Af) Pg (kk, rL Af, q9, Mdr, s9, m9, gz Rf 1, gz Rf 2, gz Rf 3, 0) = (kk + 1, rL u_30.2.2.1, q9, Mdr, s9, m9 + (1 - 1), gz f_41 1, gz f_41 2, gz f_41 3, 0)) ∨ (¬ Pg.2.1 kk ≤ 18 ∧ u_30.2.2.1 = Af ∧ Mdr = Mdr ∧ gz f_41 1 = gz Rf 1 ∧ gz f_41 2 = gz Rf 2 ∧ gz f_41 3 = gz Rf 3 ∧ (1 : Int) = 1) from (Or.inl ⟨by have h9 := hrow (); omega, fun q9 s9 m9 => (do_17 (R3 := gz f_41 3) (by have h9 := hrow (); omega) (by have h9 := hrow (); omega) (Or.inl ⟨rfl, g9.2.1, g9.2.2, by have r90 := gz_up hf_41 ⟨by omega, by omega⟩ ⟨by omega, by omega⟩ (j := 0) (by omega); have r91 := gz_up hf_41 ⟨by omega, by omega⟩ ⟨by omega, by omega⟩ (j := 1) (by omega); have r92 := gz_up hf_41 ⟨by omega, by omega⟩ ⟨by omega, by omega⟩ (j := 2) (by omega); have r93 := gz_up hf_41 ⟨by omega, by omega⟩ ⟨by omega, by omega⟩ (j := 3) (by omega); have r94 := gz_up hf_41 ⟨by omega, by omega⟩ ⟨by omega, by omega⟩ (j := 4) (by omega); omega⟩)).trans (rs_eq rfl rfl rfl rfl rfl rfl (by have r90 := gz_up hf_41 ⟨by omega, by omega⟩ ⟨by omega, by omega⟩ (j := 0) (by omega); have r91 := gz_up hf_41 ⟨by omega, by omega⟩ ⟨by omega, by omega⟩ (j := 1) (by omega); have r92 := gz_up hf_41 ⟨by omega, by omega⟩ ⟨by omega, by omega⟩ (j := 2) (by omega); have r93 := gz_up hf_41 ⟨by omega, by omega⟩ ⟨by omega, by omega⟩ (j := 3) (by omega); have r94 := gz_up hf_41 ⟨by omega, by omega⟩ ⟨by omega, by omega⟩ (j := 4) (by omega); omega) (by have r90 := gz_up hf_41 ⟨by omega, by omega⟩ ⟨by omega, by omega⟩ (j := 0) (by omega); have r91 := gz_up hf_41 ⟨by omega, by omega⟩ ⟨by omega, by omega⟩ (j := 1) (by omega); have r92 := gz_up hf_41 ⟨by omega, by omega⟩ ⟨by omega, by omega⟩ (j := 2) (by omega); have r93 := gz_up hf_41 ⟨by omega, by omega⟩ ⟨by omega, by omega⟩ (j := 3) (by omega); have r94 := gz_up hf_41 ⟨by omega, by omega⟩ ⟨by omega, by omega⟩ (j := 4) (by omega); omega) (by have r90 := gz_up hf_41 ⟨by omega, by omega⟩ ⟨by omega, by omega⟩ (j := 0) (by omega); have r91 := gz_up hf_41 ⟨by omega, by omega⟩ ⟨by omega, by omega⟩ (j := 1) (by omega); have r92 := gz_up hf_41 ⟨by omega, by omega⟩ ⟨by omega, by omega⟩ (j := 2) (by omega); have r93 := gz_up hf_41 ⟨by omega, by omega⟩ ⟨by omega, by omega⟩ (j := 3) (by omega); have r94 := gz_up hf_41 ⟨by omega, by omega⟩ ⟨by omega, by omega⟩ (j := 4) (by omega); omega) rfl)⟩)), (show gz f_41 0 = gz Rf 0 ∧ gz f_41 4 = gz Rf 4 from (by have r90 := gz_up hf_41 ⟨by omega, by omega⟩ ⟨by omega, by omega⟩ (j := 0) (by omega); have r91 := gz_up hf_41 ⟨by omega, by omega⟩ ⟨by omega, by omega⟩ (j := 1) (by omega); have r92 := gz_up hf_41 ⟨by omega, by omega⟩ ⟨by omega, by omega⟩ (j := 2) (by omega); have r93 := gz_up hf_41 ⟨by omega, by omega⟩ ⟨by omega, by omega⟩ (j := 3) (by omega); have r94 := gz_up hf_41 ⟨by omega, by omega⟩ ⟨by omega, by omega⟩ (j := 4) (by omega); omega)), (show ∀ j : Int, 0 ≤ j → j < 5 → gz Rf j ≤ gz f_41 j ∧ gz f_41 j ≤ gz Rf j + 100 from (fun j h1 h2 => by have e9 : j = 0 ∨ j = 1 ∨ j = 2 ∨ j = 3 ∨ j = 4 := (by omega); have r90 := gz_up hf_41 ⟨by omega, by omega⟩ ⟨by omega, by omega⟩ (j := 0) (by omega); have r91 := gz_up hf_41 ⟨by omega, by omega⟩ ⟨by omega, by omega⟩ (j := 1) (by omega); have r92 := gz_up hf_41 ⟨by omega, by omega⟩ ⟨by omega, by omega⟩ (j := 2) (by omega); have r93 := gz_up hf_41 ⟨by omega, by omega⟩ ⟨by omega, by omega⟩ (j := 3) (by omega); have r94 := gz_up hf_41 ⟨by omega, by omega⟩ ⟨by omega, by omega⟩ (j := 4) (by omega); rcases e9 with rfl | rfl | rfl | rfl | rfl <;> omega))⟩ (hP.sub [1, 2, 0] rfl) (hD.sub [1, 2, 0] rfl rfl) dX12_does_114
      ·
        rcases Classical.em ((gz Af (520 + (6 * kk))) = 18) with c_42 | c_42
        ·
          refine lv_tableIn (tgt := 115) (off := 100) hx hb dX12_does_15 (by rw [iZ_ti ⟨by omega, by omega⟩]; omega) (by rw [iZ_ti ⟨by omega, by omega⟩]; omega) (by rw [iZ_ti ⟨by omega, by omega⟩, c_42]; rfl) (by decide) ?_
          refine lv_iconst (v := iZ 0) hx hb dX12_does_115 rfl ?_
          refine lv_istore_n (lv' := [(3, .int (iZ 0)), (2, .int (iZ (gz Af ((520 + (6 * kk)) + 1)))), (0, .ref hm), (1, .int (iZ (520 + (6 * kk))))]) hx hb dX12_does_116 rfl hl (bl rfl) rfl (fun ls hl => ?_)
          have hA1 : gz Af ((520 + (6 * kk)) + 1) = Pg.2.2.1 kk := (by have h9 := hrow (); omega)
          have hw9 : Pg.2.1 kk = 18 := (by have h9 := hrow (); omega)
          have HL117 : ∀ (fu : Nat) (v3_117 : Int) (Mdrq117 : Int) (Afq117 : Nat → Int32) (Rfq117 : Nat → Int32) (H : Heap) (locs : List Loc) (ls : Array Slot), ((gz Af 0 - 1) + 2 - v3_117) < (fu : Int) → ((0 ≤ v3_117 ∧ v3_117 ≤ (gz Af 0 - 1) + 1)) → (Mdrq117 = drN Mdr (Int.toNat (v3_117)) ∧ (0 ≤ Mdrq117 ∧ Mdrq117 ≤ 65535)) → (gz Afq117 3 = gz Af 3 ∧ gz Afq117 4 = gz Af 4) → (gz Afq117 (118 + gz Af 3) = chX Mdr (gz Af ((520 + (6 * kk)) + 1)) (gz Af (118 + gz Af 3)) (Int.toNat (v3_117)) ∧ ∀ j : Int, 0 ≤ j → ¬ j = 118 + gz Af 3 → gz Afq117 j = gz Af j) → (gz Rfq117 2 = gz Rf 2 + chN Mdr (gz Af ((520 + (6 * kk)) + 1)) (Int.toNat (v3_117)) ∧ (gz Rf 2 ≤ gz Rfq117 2 ∧ gz Rfq117 2 ≤ gz Rf 2 + v3_117) ∧ gz Rfq117 0 = gz Rf 0 ∧ gz Rfq117 1 = gz Rf 1 ∧ gz Rfq117 3 = gz Rf 3 ∧ gz Rfq117 4 = gz Rf 4) → (M0 Afq117) → (FR Afq117 Af) → va_P D vwCl [(hm, .inr (12, [.ref Ma, .ref Mn, .int (iZ Mst), .long Mtp, .long Mbt, .ref Ms, .ref My, .ref Mt, .ref Mp, .ref Mx, .int (iZ Mtd), .int (iZ Msz), .int (iZ Mtk), .int (iZ Mfr), .int (iZ Men), .int (iZ Mva), .int (iZ Mfk), .int (iZ Mfp), .int (iZ Mfs), .int (iZ Mse), .int (iZ Mlt), .ref Mo, .int (iZ Mdp), .int (iZ Mct), .ref Mk, .ref Ml, .ref Mb, .ref Mh, .ref Mc, .int (iZ Mdrq117), .int (iZ Mrs), .ref Mz, .ref Mr, .ref Mq, .int (iZ Mit), .int (iZ Mmk)])), (Ma, .inl (k 1, 5340, .inl Afq117)), (Mr, .inl (k 1, 5, .inl Rfq117))] H → va_D A [(hm, .inr (12, [.ref Ma, .ref Mn, .int (iZ Mst), .long Mtp, .long Mbt, .ref Ms, .ref My, .ref Mt, .ref Mp, .ref Mx, .int (iZ Mtd), .int (iZ Msz), .int (iZ Mtk), .int (iZ Mfr), .int (iZ Men), .int (iZ Mva), .int (iZ Mfk), .int (iZ Mfp), .int (iZ Mfs), .int (iZ Mse), .int (iZ Mlt), .ref Mo, .int (iZ Mdp), .int (iZ Mct), .ref Mk, .ref Ml, .ref Mb, .ref Mh, .ref Mc, .int (iZ Mdrq117), .int (iZ Mrs), .ref Mz, .ref Mr, .ref Mq, .int (iZ Mit), .int (iZ Mmk)])), (Ma, .inl (k 1, 5340, .inl Afq117)), (Mr, .inl (k 1, 5, .inl Rfq117))] → va_S A s.heap H locs → lv_has ls 4 [(3, .int (iZ v3_117)), (2, .int (iZ (gz Af ((520 + (6 * kk)) + 1)))), (0, .ref hm), (1, .int (iZ (520 + (6 * kk))))] → W p l e (rj 8 0 0) s m [.ref hm, .int (iZ (520 + (6 * kk)))].toArray below meth c H locs 0 0 (MQ below (QW (σ := ((Int × Int) × (Int64) × ((Nat → Int32) × (Nat → Int32)) × (Unit))) (fun u => some (.int (iZ u.1.1))) (fun u => (M0 u.2.2.1.1) ∧ (FR u.2.2.1.1 Af) ∧ (0 ≤ u.1.2 ∧ u.1.2 ≤ 65535) ∧ ((u.1.1 : Int) = 0 ∨ (u.1.1 : Int) = 1) ∧ ((Pg.2.1 kk ≤ 18 ∧ ∀ (q9 : Int → Int) (s9 m9 : Int), yT (eR Af) Pg (kk, rL Af, q9, Mdr, s9, m9, gz Rf 1, gz Rf 2, gz Rf 3, 0) = (kk + 1, rL u.2.2.1.1, q9, u.1.2, s9, m9 + (1 - u.1.1), gz u.2.2.1.2 1, gz u.2.2.1.2 2, gz u.2.2.1.2 3, 0)) ∨ (¬ Pg.2.1 kk ≤ 18 ∧ u.2.2.1.1 = Af ∧ u.1.2 = Mdr ∧ gz u.2.2.1.2 1 = gz Rf 1 ∧ gz u.2.2.1.2 2 = gz Rf 2 ∧ gz u.2.2.1.2 3 = gz Rf 3 ∧ (u.1.1 : Int) = 1)) ∧ (gz u.2.2.1.2 0 = gz Rf 0 ∧ gz u.2.2.1.2 4 = gz Rf 4) ∧ (∀ j : Int, 0 ≤ j → j < 5 → gz Rf j ≤ gz u.2.2.1.2 j ∧ gz u.2.2.1.2 j ≤ gz Rf j + 100)) (fun u => [(hm, .inr (12, [.ref Ma, .ref Mn, .int (iZ Mst), .long Mtp, .long Mbt, .ref Ms, .ref My, .ref Mt, .ref Mp, .ref Mx, .int (iZ Mtd), .int (iZ Msz), .int (iZ Mtk), .int (iZ Mfr), .int (iZ Men), .int (iZ Mva), .int (iZ Mfk), .int (iZ Mfp), .int (iZ Mfs), .int (iZ Mse), .int (iZ Mlt), .ref Mo, .int (iZ Mdp), .int (iZ Mct), .ref Mk, .ref Ml, .ref Mb, .ref Mh, .ref Mc, .int (iZ u.1.2), .int (iZ Mrs), .ref Mz, .ref Mr, .ref Mq, .int (iZ Mit), .int (iZ Mmk)])), (Ma, .inl (k 1, 5340, .inl u.2.2.1.1)), (Mr, .inl (k 1, 5, .inl u.2.2.1.2))]) D A) [.ref hm, .int (iZ (520 + (6 * kk)))].toArray s 0 0 A) (F0 m 117 ls []) := by
            intro fu
            induction fu with
            | zero => intro v3_117 Mdrq117 Afq117 Rfq117 H locs ls hμ117 hi117 hdn hw3 hwn hrw hM117 hF117 hP hD hS hl; exact absurd hμ117 (by omega)
            | succ fu ih117 =>
              intro v3_117 Mdrq117 Afq117 Rfq117 H locs ls hμ117 hi117 hdn hw3 hwn hrw hM117 hF117 hP hD hS hl
              obtain ⟨m0l117, m1l117, m3l117, m4l117, m5l117, mFl117, mOl117, mSl117⟩ := id hM117
              have frl117 := FR.z hF117
              refine lv_iload_n hx hb dX12_does_117 rfl (lv_at hl 0 rfl) ?_
              refine lv_aload_n hx hb dX12_does_118 rfl (lv_at hl 2 rfl) ?_
              refine va_get (D := D) (ci := 12) (v := .ref Ma) (C := RX12) (T := TX12) (N := 36) hx hb hts iX12 hown hK hP 0 rfl rfl 0 (bl rfl) (hts _ qf_X12_7) (fun _ h => h) rfl dX12_does_119 ?_
              refine lv_iconst (v := iZ 0) hx hb dX12_does_122 rfl ?_
              refine va_iald hx hb hK hP 1 1 rfl rfl (zin (e := 0) (n := 5340) ⟨by omega, by omega⟩ (bl rfl)) dX12_does_123 ?_
              refine lv_topi (fun x_43 ex_43 => ?_)
              obtain rfl : x_43 = iZ (gz Afq117 0) := ex_43.trans (gz_eq ⟨by omega, by omega⟩)
              have h_44 := gz_rg Afq117 0
              refine lv_icmp_ge (tgt := 174) hx hb dX12_does_124 rfl (fun c_45 => ?_) (fun c_45 => ?_)
              ·
                have c_45 := (zle (x := iZ (gz Afq117 0)) (y := iZ v3_117) rfl rfl (gz_rg Afq117 0) ⟨by omega, by omega⟩).mp c_45
                refine lv_iconst (v := iZ 1) hx hb dX12_does_174 rfl ?_
                exact EWz hx hb hr hlocks hS ((1, Mdrq117), 0, (Afq117, Rfq117), ()) rfl rfl ⟨(show M0 Afq117 from hM117), (show FR Afq117 Af from hF117), (show 0 ≤ Mdrq117 ∧ Mdrq117 ≤ 65535 from (by omega)), (show (1 : Int) = 0 ∨ (1 : Int) = 1 from (by omega)), (show (Pg.2.1 kk ≤ 18 ∧ ∀ (q9 : Int → Int) (s9 m9 : Int), yT (eR Af) Pg (kk, rL Af, q9, Mdr, s9, m9, gz Rf 1, gz Rf 2, gz Rf 3, 0) = (kk + 1, rL Afq117, q9, Mdrq117, s9, m9 + (1 - 1), gz Rfq117 1, gz Rfq117 2, gz Rfq117 3, 0)) ∨ (¬ Pg.2.1 kk ≤ 18 ∧ Afq117 = Af ∧ Mdrq117 = Mdr ∧ gz Rfq117 1 = gz Rf 1 ∧ gz Rfq117 2 = gz Rf 2 ∧ gz Rfq117 3 = gz Rf 3 ∧ (1 : Int) = 1) from (Or.inl ⟨by omega, fun q9 s9 m9 => (do_18 (d1 := Mdrq117) (R2 := gz Rfq117 2) hw9 hA1.symm (rL_ch hw3.1 hw3.2 ⟨by omega, by omega⟩ ⟨by omega, by omega⟩ (by have e9 : v3_117 = gz Af 0 := (by omega); rw [e9] at hwn; exact hwn.1) (fun j h1 h2 => hwn.2 j (by omega) h2)) (by have e9 : v3_117 = gz Af 0 := (by omega); rw [e9] at hdn; exact hdn.1) (by have e9 : v3_117 = gz Af 0 := (by omega); rw [e9] at hrw; exact hrw.1)).trans (rs_eq rfl rfl rfl rfl rfl rfl (by omega) (by omega) (by omega) rfl)⟩)), (show gz Rfq117 0 = gz Rf 0 ∧ gz Rfq117 4 = gz Rf 4 from (by omega)), (show ∀ j : Int, 0 ≤ j → j < 5 → gz Rf j ≤ gz Rfq117 j ∧ gz Rfq117 j ≤ gz Rf j + 100 from (fun j h1 h2 => by have e9 : j = 0 ∨ j = 1 ∨ j = 2 ∨ j = 3 ∨ j = 4 := (by omega); rcases e9 with rfl | rfl | rfl | rfl | rfl <;> omega))⟩ (hP.sub [0, 1, 2] rfl) (hD.sub [0, 1, 2] rfl rfl) dX12_does_175
              ·
                have c_45 := mt (zle (x := iZ (gz Afq117 0)) (y := iZ v3_117) rfl rfl (gz_rg Afq117 0) ⟨by omega, by omega⟩).mpr c_45
                refine lv_aload_n hx hb dX12_does_127 rfl (lv_at hl 2 rfl) ?_
                refine CWV (As := []) (rest := []) (wc := _) (wr := [(Ma, .inl (k 1, 5340, .inl Afq117)), (Mr, .inl (k 1, 5, .inl Rfq117))]) hx hb hml hown hts hKK hP hD hS hA (r_draw l D k hm Ma Mn Ms My Mt Mp Mx Mo Mk Ml Mb Mh Mc Mz Mr Mq Mst Mtd Msz Mtk Mfr Men Mva Mfk Mfp Mfs Mse Mlt Mdp Mct Mdrq117 Mrs Mit Mmk Mtp Mbt ⟨by omega, by omega⟩) ci_X12_draw qm_X12_384 ⟨Nat.le_of_ble_eq_true rfl, Nat.le_of_ble_eq_true rfl⟩ ⟨Nat.le_of_ble_eq_true rfl, Nat.le_of_ble_eq_true rfl⟩ [0] [1, 2] rfl rfl rfl rfl rfl (dj rfl) 0 rfl rfl rfl hl.1 rfl (Nat.le_of_ble_eq_true rfl) dX12_does_128 (fun u_46 H locs hφ hP hD hS => ?_)
                obtain ⟨p_47, p_48⟩ : (u_46.1.2 = (Mdrq117 * 2893 + 11093) % 65536) ∧ ((0 ≤ u_46.1.2 ∧ u_46.1.2 ≤ 65535) ∧ u_46.1.1 = u_46.1.2 / 8 % 16) := hφ
                refine W.eq (g2 := F0 m 131 ls [.int (iZ u_46.1.1)]) rfl ?_
                refine lv_iload_n hx hb dX12_does_131 rfl (lv_at hl 1 rfl) ?_
                refine lv_icmp_lt (tgt := 138) hx hb dX12_does_132 rfl (fun c_49 => ?_) (fun c_49 => ?_)
                ·
                  have c_49 := (zlt (x := iZ u_46.1.1) (y := iZ (gz Af ((520 + (6 * kk)) + 1))) rfl rfl ⟨by omega, by omega⟩ (gz_rg Af ((520 + (6 * kk)) + 1))).mp c_49
                  refine lv_aload_n hx hb dX12_does_138 rfl (lv_at hl 2 rfl) ?_
                  refine va_get (D := D) (ci := 12) (v := .ref Ma) (C := RX12) (T := TX12) (N := 36) hx hb hts iX12 hown hK hP 2 rfl rfl 0 (bl rfl) (hts _ qf_X12_7) (fun _ h => h) rfl dX12_does_139 ?_
                  refine lv_bipush (v := iZ 118) hx hb dX12_does_142 bip_118 ?_
                  refine lv_aload_n hx hb dX12_does_144 rfl (lv_at hl 2 rfl) ?_
                  refine va_get (D := D) (ci := 12) (v := .ref Ma) (C := RX12) (T := TX12) (N := 36) hx hb hts iX12 hown hK hP 2 rfl rfl 0 (bl rfl) (hts _ qf_X12_7) (fun _ h => h) rfl dX12_does_145 ?_
                  refine lv_iconst (v := iZ 3) hx hb dX12_does_148 rfl ?_
                  refine va_iald hx hb hK hP 0 1 rfl rfl (zin (e := 3) (n := 5340) ⟨by omega, by omega⟩ (bl rfl)) dX12_does_149 ?_
                  refine lv_topi (fun x_50 ex_50 => ?_)
                  obtain rfl : x_50 = iZ (gz Afq117 3) := ex_50.trans (gz_eq ⟨by omega, by omega⟩)
                  have h_51 := gz_rg Afq117 3
                  refine lv_iadd hx hb dX12_does_150 ?_
                  refine lv_topi (fun x_52 ex_52 => ?_)
                  obtain rfl : x_52 = iZ (118 + (gz Afq117 3)) := ex_52.trans (iZ_add 118 (gz Afq117 3))
                  refine lv_dup2_11 hx hb dX12_does_151 rfl rfl ?_
                  refine va_iald hx hb hK hP 0 1 rfl rfl (zin (e := (118 + (gz Afq117 3))) (n := 5340) ⟨by omega, by omega⟩ (bl rfl)) dX12_does_152 ?_
                  refine lv_topi (fun x_53 ex_53 => ?_)
                  obtain rfl : x_53 = iZ (gz Afq117 (118 + (gz Afq117 3))) := ex_53.trans (gz_eq ⟨by omega, by omega⟩)
                  have h_54 := gz_rg Afq117 (118 + (gz Afq117 3))
                  refine lv_iconst (v := iZ 1) hx hb dX12_does_153 rfl ?_
                  refine lv_iload_n hx hb dX12_does_154 rfl (lv_at hl 0 rfl) ?_
                  refine lv_ishl hx hb dX12_does_155 ?_
                  refine lv_topi (fun x_56 ex_56 => ?_)
                  obtain ⟨z_55, hz_55, hz_55a, hz_55b⟩ := i32_z x_56
                  subst hz_55
                  refine lv_ixor hx hb dX12_does_156 ?_
                  refine lv_topi (fun x_58 ex_58 => ?_)
                  obtain ⟨z_57, hz_57, hz_57a, hz_57b⟩ := i32_z x_58
                  subst hz_57
                  refine va_iast hx hb hK hP hD hS 0 1 rfl rfl (zin (e := (118 + (gz Afq117 3))) (n := 5340) ⟨by omega, by omega⟩ (bl rfl)) dX12_does_157 (fun H locs hP hD hS => ?_)
                  obtain ⟨f_59, hf_59⟩ : ∃ gg9, gg9 = upd Afq117 (iZ (118 + (gz Afq117 3))).toNatClampNeg (iZ z_57) := ⟨_, rfl⟩
                  rw [← hf_59] at hP hD
                  have hMn_60 := M0.far hM117 hf_59 (Or.inl ⟨by omega, by omega⟩) ⟨by omega, by omega⟩
                  have hFn_61 := FR.up hf_59 (Or.inr (Or.inr ⟨by omega, by omega⟩)) ⟨by omega, by omega⟩
                  refine lv_aload_n hx hb dX12_does_158 rfl (lv_at hl 2 rfl) ?_
                  refine va_get (D := D) (ci := 12) (v := .ref Mr) (C := RX12) (T := TX12) (N := 36) hx hb hts iX12 hown hK hP 2 rfl rfl 32 (bl rfl) (hts _ qf_X12_65) (fun _ h => h) rfl dX12_does_159 ?_
                  refine lv_iconst (v := iZ 2) hx hb dX12_does_162 rfl ?_
                  refine lv_dup2_11 hx hb dX12_does_163 rfl rfl ?_
                  refine va_iald hx hb hK hP 1 1 rfl rfl (zin (e := 2) (n := 5) ⟨by omega, by omega⟩ (bl rfl)) dX12_does_164 ?_
                  refine lv_topi (fun x_62 ex_62 => ?_)
                  obtain rfl : x_62 = iZ (gz Rfq117 2) := ex_62.trans (gz_eq ⟨by omega, by omega⟩)
                  have h_63 := gz_rg Rfq117 2
                  refine lv_iconst (v := iZ 1) hx hb dX12_does_165 rfl ?_
                  refine lv_iadd hx hb dX12_does_166 ?_
                  refine lv_topi (fun x_64 ex_64 => ?_)
                  obtain rfl : x_64 = iZ ((gz Rfq117 2) + 1) := ex_64.trans (iZ_add (gz Rfq117 2) 1)
                  refine va_iast hx hb hK hP hD hS 1 1 rfl rfl (zin (e := 2) (n := 5) ⟨by omega, by omega⟩ (bl rfl)) dX12_does_167 (fun H locs hP hD hS => ?_)
                  obtain ⟨f_65, hf_65⟩ : ∃ gg9, gg9 = upd Rfq117 (iZ 2).toNatClampNeg (iZ ((gz Rfq117 2) + 1)) := ⟨_, rfl⟩
                  rw [← hf_65] at hP hD
                  refine lv_iinc (v := iZ (v3_117 + 1)) (lv' := [(3, .int (iZ (v3_117 + 1))), (2, .int (iZ (gz Af ((520 + (6 * kk)) + 1)))), (0, .ref hm), (1, .int (iZ (520 + (6 * kk))))]) hx hb dX12_does_168 hl (k := 0) rfl (iZ_add v3_117 1) (by decide) rfl (fun ls hl => ?_)
                  refine lv_goto (tgt := 117) hx hb dX12_does_171 rfl ?_
                  exact ih117  (v3_117 + 1) u_46.1.2 f_59 f_65 _ _ _ (by omega) (show (0 ≤ (v3_117 + 1) ∧ (v3_117 + 1) ≤ (gz Af 0 - 1) + 1) from ⟨by omega, by omega⟩) (show u_46.1.2 = drN Mdr (Int.toNat ((v3_117 + 1))) ∧ (0 ≤ u_46.1.2 ∧ u_46.1.2 ≤ 65535) from (by have s9 := ch_s (d := Mdr) (c := gz Af ((520 + (6 * kk)) + 1)) (s := gz Af (118 + gz Af 3)) (i := v3_117) (by omega); rw [← hdn.1] at s9; have t9 := s9.2; rw [s9.1] at t9; exact ⟨(p_47).trans s9.1.symm, by omega⟩)) (show gz f_59 3 = gz Af 3 ∧ gz f_59 4 = gz Af 4 from (by have r93 := gz_up hf_59 ⟨by omega, by omega⟩ ⟨hz_57a, hz_57b⟩ (j := 3) (by omega); have r94 := gz_up hf_59 ⟨by omega, by omega⟩ ⟨hz_57a, hz_57b⟩ (j := 4) (by omega); rw [if_neg (by omega)] at r93 r94; exact ⟨r93.trans hw3.1, r94.trans hw3.2⟩)) (show gz f_59 (118 + gz Af 3) = chX Mdr (gz Af ((520 + (6 * kk)) + 1)) (gz Af (118 + gz Af 3)) (Int.toNat ((v3_117 + 1))) ∧ ∀ j : Int, 0 ≤ j → ¬ j = 118 + gz Af 3 → gz f_59 j = gz Af j from ⟨(gz_up hf_59 ⟨by omega, by omega⟩ ⟨hz_57a, hz_57b⟩ (by omega)).trans ((if_pos (by omega)).trans (by rw [show z_57 = xoV (gz Afq117 (118 + gz Afq117 3)) v3_117 from xoV_eq ex_56 ex_58 ⟨hz_57a, hz_57b⟩, show gz Afq117 3 = gz Af 3 from hw3.1, hwn.1]; have s9 := ch_s (d := Mdr) (c := gz Af ((520 + (6 * kk)) + 1)) (s := gz Af (118 + gz Af 3)) (i := v3_117) (by omega); rw [← hdn.1] at s9; have t9 := s9.2; rw [s9.1] at t9; have d9 := p_47; have d7 := p_48.2; rw [p_47] at d7; rcases t9 with t8 | t8; exact t8.2.1.symm; omega)), fun j h1 h2 => (gz_up hf_59 ⟨by omega, by omega⟩ ⟨hz_57a, hz_57b⟩ h1).trans ((if_neg (by omega)).trans (hwn.2 j h1 h2))⟩) (show gz f_65 2 = gz Rf 2 + chN Mdr (gz Af ((520 + (6 * kk)) + 1)) (Int.toNat ((v3_117 + 1))) ∧ (gz Rf 2 ≤ gz f_65 2 ∧ gz f_65 2 ≤ gz Rf 2 + (v3_117 + 1)) ∧ gz f_65 0 = gz Rf 0 ∧ gz f_65 1 = gz Rf 1 ∧ gz f_65 3 = gz Rf 3 ∧ gz f_65 4 = gz Rf 4 from (by have s9 := ch_s (d := Mdr) (c := gz Af ((520 + (6 * kk)) + 1)) (s := gz Af (118 + gz Af 3)) (i := v3_117) (by omega); rw [← hdn.1] at s9; have t9 := s9.2; rw [s9.1] at t9; have d9 := p_47; have d7 := p_48.2; rw [p_47] at d7; have r90 := gz_up hf_65 ⟨by omega, by omega⟩ ⟨by omega, by omega⟩ (j := 0) (by omega); have r91 := gz_up hf_65 ⟨by omega, by omega⟩ ⟨by omega, by omega⟩ (j := 1) (by omega); have r92 := gz_up hf_65 ⟨by omega, by omega⟩ ⟨by omega, by omega⟩ (j := 2) (by omega); have r93 := gz_up hf_65 ⟨by omega, by omega⟩ ⟨by omega, by omega⟩ (j := 3) (by omega); have r94 := gz_up hf_65 ⟨by omega, by omega⟩ ⟨by omega, by omega⟩ (j := 4) (by omega); omega)) (show M0 f_59 from hMn_60) (show FR f_59 Af from (FR.tr hFn_61 hF117)) (hP.sub [2, 0, 1] rfl) (hD.sub [2, 0, 1] rfl rfl) hS (lv_sub hl [0, 1, 2, 3] rfl)
                ·
                  have c_49 := mt (zlt (x := iZ u_46.1.1) (y := iZ (gz Af ((520 + (6 * kk)) + 1))) rfl rfl ⟨by omega, by omega⟩ (gz_rg Af ((520 + (6 * kk)) + 1))).mpr c_49
                  refine lv_goto (tgt := 168) hx hb dX12_does_135 rfl ?_
                  refine lv_iinc (v := iZ (v3_117 + 1)) (lv' := [(3, .int (iZ (v3_117 + 1))), (2, .int (iZ (gz Af ((520 + (6 * kk)) + 1)))), (0, .ref hm), (1, .int (iZ (520 + (6 * kk))))]) hx hb dX12_does_168 hl (k := 0) rfl (iZ_add v3_117 1) (by decide) rfl (fun ls hl => ?_)
                  refine lv_goto (tgt := 117) hx hb dX12_does_171 rfl ?_
                  exact ih117  (v3_117 + 1) u_46.1.2 Afq117 Rfq117 _ _ _ (by omega) (show (0 ≤ (v3_117 + 1) ∧ (v3_117 + 1) ≤ (gz Af 0 - 1) + 1) from ⟨by omega, by omega⟩) (show u_46.1.2 = drN Mdr (Int.toNat ((v3_117 + 1))) ∧ (0 ≤ u_46.1.2 ∧ u_46.1.2 ≤ 65535) from (by have s9 := ch_s (d := Mdr) (c := gz Af ((520 + (6 * kk)) + 1)) (s := gz Af (118 + gz Af 3)) (i := v3_117) (by omega); rw [← hdn.1] at s9; have t9 := s9.2; rw [s9.1] at t9; exact ⟨(p_47).trans s9.1.symm, by omega⟩)) (show gz Afq117 3 = gz Af 3 ∧ gz Afq117 4 = gz Af 4 from hw3) (show gz Afq117 (118 + gz Af 3) = chX Mdr (gz Af ((520 + (6 * kk)) + 1)) (gz Af (118 + gz Af 3)) (Int.toNat ((v3_117 + 1))) ∧ ∀ j : Int, 0 ≤ j → ¬ j = 118 + gz Af 3 → gz Afq117 j = gz Af j from ⟨by have s9 := ch_s (d := Mdr) (c := gz Af ((520 + (6 * kk)) + 1)) (s := gz Af (118 + gz Af 3)) (i := v3_117) (by omega); rw [← hdn.1] at s9; have t9 := s9.2; rw [s9.1] at t9; have d9 := p_47; have d7 := p_48.2; rw [p_47] at d7; have w9 := hwn.1; omega, hwn.2⟩) (show gz Rfq117 2 = gz Rf 2 + chN Mdr (gz Af ((520 + (6 * kk)) + 1)) (Int.toNat ((v3_117 + 1))) ∧ (gz Rf 2 ≤ gz Rfq117 2 ∧ gz Rfq117 2 ≤ gz Rf 2 + (v3_117 + 1)) ∧ gz Rfq117 0 = gz Rf 0 ∧ gz Rfq117 1 = gz Rf 1 ∧ gz Rfq117 3 = gz Rf 3 ∧ gz Rfq117 4 = gz Rf 4 from (by have s9 := ch_s (d := Mdr) (c := gz Af ((520 + (6 * kk)) + 1)) (s := gz Af (118 + gz Af 3)) (i := v3_117) (by omega); rw [← hdn.1] at s9; have t9 := s9.2; rw [s9.1] at t9; have d9 := p_47; have d7 := p_48.2; rw [p_47] at d7; omega)) (show M0 Afq117 from hM117) (show FR Afq117 Af from hF117) (hP.sub [2, 0, 1] rfl) (hD.sub [2, 0, 1] rfl rfl) hS (lv_sub hl [0, 1, 2, 3] rfl)
          exact HL117 10 0 Mdr Af Rf _ _ _ (by omega) (show (0 ≤ 0 ∧ 0 ≤ (gz Af 0 - 1) + 1) from ⟨by omega, by omega⟩) (show Mdr = drN Mdr (Int.toNat (0)) ∧ (0 ≤ Mdr ∧ Mdr ≤ 65535) from ⟨rfl, by omega⟩) (show gz Af 3 = gz Af 3 ∧ gz Af 4 = gz Af 4 from ⟨rfl, rfl⟩) (show gz Af (118 + gz Af 3) = chX Mdr (gz Af ((520 + (6 * kk)) + 1)) (gz Af (118 + gz Af 3)) (Int.toNat (0)) ∧ ∀ j : Int, 0 ≤ j → ¬ j = 118 + gz Af 3 → gz Af j = gz Af j from ⟨rfl, fun j h1 h2 => rfl⟩) (show gz Rf 2 = gz Rf 2 + chN Mdr (gz Af ((520 + (6 * kk)) + 1)) (Int.toNat (0)) ∧ (gz Rf 2 ≤ gz Rf 2 ∧ gz Rf 2 ≤ gz Rf 2 + 0) ∧ gz Rf 0 = gz Rf 0 ∧ gz Rf 1 = gz Rf 1 ∧ gz Rf 3 = gz Rf 3 ∧ gz Rf 4 = gz Rf 4 from ⟨by show gz Rf 2 = gz Rf 2 + 0; omega, by omega, rfl, rfl, rfl, rfl⟩) (show M0 Af from hM) (show FR Af Af from (FR.rf Af)) (hP.sub [0, 1, 2] rfl) (hD.sub [0, 1, 2] rfl rfl) hS (lv_sub hl [0, 1, 2, 3] rfl)
        ·
          refine lv_tableOut (tgt := 176) hx hb dX12_does_15 (by rw [iZ_ti ⟨by omega, by omega⟩]; omega) (by decide) ?_
          refine lv_iconst (v := iZ 1) hx hb dX12_does_176 rfl ?_
          exact EWz hx hb hr hlocks hS ((1, Mdr), 0, (Af, Rf), ()) rfl rfl ⟨(show M0 Af from hM), (show FR Af Af from (FR.rf Af)), (show 0 ≤ Mdr ∧ Mdr ≤ 65535 from (by omega)), (show (1 : Int) = 0 ∨ (1 : Int) = 1 from (by omega)), (show (Pg.2.1 kk ≤ 18 ∧ ∀ (q9 : Int → Int) (s9 m9 : Int), yT (eR Af) Pg (kk, rL Af, q9, Mdr, s9, m9, gz Rf 1, gz Rf 2, gz Rf 3, 0) = (kk + 1, rL Af, q9, Mdr, s9, m9 + (1 - 1), gz Rf 1, gz Rf 2, gz Rf 3, 0)) ∨ (¬ Pg.2.1 kk ≤ 18 ∧ Af = Af ∧ Mdr = Mdr ∧ gz Rf 1 = gz Rf 1 ∧ gz Rf 2 = gz Rf 2 ∧ gz Rf 3 = gz Rf 3 ∧ (1 : Int) = 1) from (Or.inr ⟨by have h9 := hrow (); omega, rfl, rfl, rfl, rfl, rfl, rfl⟩)), (show gz Rf 0 = gz Rf 0 ∧ gz Rf 4 = gz Rf 4 from ⟨rfl, rfl⟩), (show ∀ j : Int, 0 ≤ j → j < 5 → gz Rf j ≤ gz Rf j ∧ gz Rf j ≤ gz Rf j + 100 from (fun j h1 h2 => by have e9 : j = 0 ∨ j = 1 ∨ j = 2 ∨ j = 3 ∨ j = 4 := (by omega); rcases e9 with rfl | rfl | rfl | rfl | rfl <;> omega))⟩ (hP.sub [0, 1, 2] rfl) (hD.sub [0, 1, 2] rfl rfl) dX12_does_177
end

section
theorem kn_r {A : Nat → Int32} {K L B : Int → Int} {o r : Int} (h : M0 A) (ho : 0 ≤ o ∧ o < gz A 4) (hr : 0 ≤ r ∧ r < gz A 0) (q : isNW (arF (sh A 10) (sh A 46) (gz A 1)) (gz A 0) (gz A (78 + (2 * o))) (gz A ((78 + (2 * o)) + 1)) K L B) : K r = knF (eR A) (rL A) o r := by
  have q2 : isNW (cAr (sh A 10) (sh A 46) (gz A 0) (gz A 1)) (gz A 0) (gz A (78 + (2 * o))) (gz A ((78 + (2 * o)) + 1)) K L B := isNW_like q (fun x k y a1 a2 a3 a4 => (cAr_in ⟨a1, a2⟩ ⟨a3, a4⟩).symm)
  have lt : later (cAr (sh A 10) (sh A 46) (gz A 0) (gz A 1)) (gz A 0) := fun x k y a1 a2 a3 a4 a5 a6 a7 => by
    rw [cAr_in ⟨a1, a2⟩ ⟨a3, a4⟩]
    exact later_ar h.2.2.2.2.2.1 x k y a1 a2 a3 a4 a5 a6 a7
  rw [nwK_eq lt q2 hr.1 hr.2]
  show _ = nwK (cAr (sh A 10) (sh A 46) (gz A 0) (gz A 1)) (gz A 0) (cut (gz A 4) (gz (st2 A 78)) o) (cut (gz A 4) (gz (st2 A 79)) o) r
  rw [cut_in ho, cut_in ho, st2_gz A (by omega) ho.1, st2_gz A (by omega) ho.1, show 79 + 2 * o = 78 + 2 * o + 1 by omega]
/-- what the reference has heard of orders is what is known of them -/
def KNR (A H : Nat → Int32) (m : Int) : Prop := ∀ o r : Int, 0 ≤ o → o < m → 0 ≤ r → r < gz A 0 → gz H ((6 * o) + r) = knF (eR A) (rL A) o r
theorem wt_r {A H : Nat → Int32} {x y : Int} (h : M0 A) (hx : 0 ≤ x ∧ x < gz A 4) (hy : 0 ≤ y ∧ y < gz A 0) (k : gz H ((6 * x) + y) = knF (eR A) (rL A) x y) : (gz A 2 = 0 ∧ wtF (eR A) (rL A) y x = gz H ((6 * x) + y)) ∨ (gz A 2 = 1 ∧ wtF (eR A) (rL A) y x = -(gz H ((6 * x) + y))) ∨ (gz A 2 = 2 ∧ wtF (eR A) (rL A) y x = -(gz A ((10 + (6 * gz A (78 + (2 * x)))) + 3))) ∨ ((¬ gz A 2 = 0 ∧ ¬ gz A 2 = 1 ∧ ¬ gz A 2 = 2) ∧ wtF (eR A) (rL A) y x = gz A ((78 + (2 * x)) + 1)) := by
  have g1 : (rL A).2.2.2.1 x = gz A (78 + (2 * x)) := (cut_in (F := gz (st2 A 78)) hx).trans (st2_gz A (by omega) hx.1)
  have g2 : (rL A).2.2.2.2 x = gz A ((78 + (2 * x)) + 1) := (cut_in (F := gz (st2 A 79)) hx).trans ((st2_gz A (by omega) hx.1).trans (congrArg (gz A) (by omega)))
  have go := h.2.2.2.2.2.2.1 x hx.1 hx.2
  have g3 : (eR A).2.2.2.2 (gz A (78 + (2 * x))) = gz A ((10 + (6 * gz A (78 + (2 * x)))) + 3) := (cRk_in (f := sh A 10) (n := gz A 0) go.1).trans ((sh_gz A (by omega) (by omega)).trans (congrArg (gz A) (by omega)))
  by_cases c0 : gz A 2 = 0
  · exact Or.inl ⟨c0, (if_pos c0).trans k.symm⟩
  · by_cases c1 : gz A 2 = 1
    · exact Or.inr (Or.inl ⟨c1, (if_neg c0).trans ((if_pos c1).trans (by rw [k]))⟩)
    · by_cases c2 : gz A 2 = 2
      · exact Or.inr (Or.inr (Or.inl ⟨c2, (if_neg c0).trans ((if_neg c1).trans ((if_pos c2).trans (by rw [g1, g3])))⟩))
      · exact Or.inr (Or.inr (Or.inr ⟨⟨c0, c1, c2⟩, (if_neg c0).trans ((if_neg c1).trans ((if_neg c2).trans g2))⟩))
theorem hoZ_r {A : Nat → Int32} {a b c : Int} (h : M0 A) (ht : yTst (gz A 0) a b c) : (a = 7 ∧ ((hoZ (eR A) (rL A) a b c = 1 ∧ wB (gz A (118 + gz A 3)) b = 1) ∨ (hoZ (eR A) (rL A) a b c = 0 ∧ ¬ wB (gz A (118 + gz A 3)) b = 1))) ∨ (a = 20 ∧ ((hoZ (eR A) (rL A) a b c = 1 ∧ ¬ ruF (eR A) (rL A) c (gz A 3) = -1 ∧ gz A (78 + (2 * ruF (eR A) (rL A) c (gz A 3))) = b) ∨ (hoZ (eR A) (rL A) a b c = 0 ∧ (ruF (eR A) (rL A) c (gz A 3) = -1 ∨ ¬ gz A (78 + (2 * ruF (eR A) (rL A) c (gz A 3))) = b)))) ∨ (a = 15 ∧ ((hoZ (eR A) (rL A) a b c = 1 ∧ ((b = 60 ∧ gz A 3 < c) ∨ (b = 62 ∧ gz A 3 > c) ∨ (¬ b = 60 ∧ ¬ b = 62 ∧ gz A 3 = c))) ∨ (hoZ (eR A) (rL A) a b c = 0 ∧ ((b = 60 ∧ ¬ gz A 3 < c) ∨ (b = 62 ∧ ¬ gz A 3 > c) ∨ (¬ b = 60 ∧ ¬ b = 62 ∧ ¬ gz A 3 = c))))) := by
  have r := ruF_rg (e := eR A) (L := rL A) (r := c) (w := gz A 3) h.2.2.2.1.1
  have r : ruF (eR A) (rL A) c (gz A 3) = -1 ∨ (0 ≤ ruF (eR A) (rL A) c (gz A 3) ∧ ruF (eR A) (rL A) c (gz A 3) < gz A 4) := r
  have q : (a = 7 ∧ ((hoZ (eR A) (rL A) a b c = 1 ∧ wB (gz (sh A 118) (gz A 3)) b = 1) ∨ (hoZ (eR A) (rL A) a b c = 0 ∧ ¬ wB (gz (sh A 118) (gz A 3)) b = 1))) ∨ (a = 20 ∧ ((hoZ (eR A) (rL A) a b c = 1 ∧ ¬ ruF (eR A) (rL A) c (gz A 3) = -1 ∧ gz (st2 A 78) (ruF (eR A) (rL A) c (gz A 3)) = b) ∨ (hoZ (eR A) (rL A) a b c = 0 ∧ (ruF (eR A) (rL A) c (gz A 3) = -1 ∨ ¬ gz (st2 A 78) (ruF (eR A) (rL A) c (gz A 3)) = b)))) ∨ (a = 15 ∧ ((hoZ (eR A) (rL A) a b c = 1 ∧ ((b = 60 ∧ gz A 3 < c) ∨ (b = 62 ∧ gz A 3 > c) ∨ (¬ b = 60 ∧ ¬ b = 62 ∧ gz A 3 = c))) ∨ (hoZ (eR A) (rL A) a b c = 0 ∧ ((b = 60 ∧ ¬ gz A 3 < c) ∨ (b = 62 ∧ ¬ gz A 3 > c) ∨ (¬ b = 60 ∧ ¬ b = 62 ∧ ¬ gz A 3 = c))))) := hoZ_c (f := sh A 10) (g := sh A 46) (n := gz A 0) (ni := gz A 1) (lw := gz A 2) (wk := gz A 3) (od := gz A 4) (wf := sh A 118) (gf := st2 A 78) (sf := st2 A 79) h.2.2.1 ht (fun _ e => r.resolve_left e)
  have e1 := sh_gz A (c := 118) (by omega) h.2.2.1.1
  rw [e1] at q
  by_cases z : ruF (eR A) (rL A) c (gz A 3) = -1
  · rcases q with q | ⟨q1, q2⟩ | q
    · exact Or.inl q
    · refine Or.inr (Or.inl ⟨q1, ?_⟩)
      rcases q2 with ⟨-, q3, -⟩ | ⟨q3, -⟩
      · exact absurd z q3
      · exact Or.inr ⟨q3, Or.inl z⟩
    · exact Or.inr (Or.inr q)
  · have e2 := st2_gz A (b := 78) (e := ruF (eR A) (rL A) c (gz A 3)) (by omega) (by omega)
    rw [e2] at q
    exact q
theorem yRM.fr {A B : Nat → Int32} {P : PR_} {n : Int} (h : yRM A 0 P) (ok : okR n P) (k : FR B A) : yRM B 0 P := ⟨(k.1 _ (by omega)).trans h.1, fun j p q => (h.2 j p q).like (fun e e1 e2 => k.1 e (by omega))⟩
set_option maxHeartbeats 4000000 in
set_option maxRecDepth 100000 in
theorem r_laysOrder (l : Launch) (D : va_G) (k : Nat → ClassId) (hm : Nat) (Ma : Nat) (Mn : Nat) (Ms : Nat) (My : Nat) (Mt : Nat) (Mp : Nat) (Mx : Nat) (Mo : Nat) (Mk : Nat) (Ml : Nat) (Mb : Nat) (Mh : Nat) (Mc : Nat) (Mz : Nat) (Mr : Nat) (Mq : Nat) (Mst : Int) (Mtd : Int) (Msz : Int) (Mtk : Int) (Mfr : Int) (Men : Int) (Mva : Int) (Mfk : Int) (Mfp : Int) (Mfs : Int) (Mse : Int) (Mlt : Int) (Mdp : Int) (Mct : Int) (Mdr : Int) (Mrs : Int) (Mit : Int) (Mmk : Int) (Mtp : Int64) (Mbt : Int64) (Af : Nat → Int32) (Kf : Nat → Int32) (Lf : Nat → Int32) (Bf : Nat → Int32) (Hf : Nat → Int32) (x : Int) (hM : M0 Af) (h9x : 0 ≤ x ∧ x < gz Af 4) (rgH : rgI Hf 0 1000000 120) : WD (σ := ((Int) × (Int64) × ((Nat → Int32) × (Nat → Int32) × (Nat → Int32) × (Nat → Int32)) × (Unit))) l yX12_laysOrder cX12_laysOrder 3 none 6 0 0 D k [.ref hm, .int (iZ x)] [(hm, .inr (12, [.ref Ma, .ref Mn, .int (iZ Mst), .long Mtp, .long Mbt, .ref Ms, .ref My, .ref Mt, .ref Mp, .ref Mx, .int (iZ Mtd), .int (iZ Msz), .int (iZ Mtk), .int (iZ Mfr), .int (iZ Men), .int (iZ Mva), .int (iZ Mfk), .int (iZ Mfp), .int (iZ Mfs), .int (iZ Mse), .int (iZ Mlt), .ref Mo, .int (iZ Mdp), .int (iZ Mct), .ref Mk, .ref Ml, .ref Mb, .ref Mh, .ref Mc, .int (iZ Mdr), .int (iZ Mrs), .ref Mz, .ref Mr, .ref Mq, .int (iZ Mit), .int (iZ Mmk)])), (Ma, .inl (k 1, 5340, .inl Af)), (Mk, .inl (k 1, 6, .inl Kf)), (Ml, .inl (k 1, 6, .inl Lf)), (Mb, .inl (k 1, 6, .inl Bf)), (Mh, .inl (k 1, 120, .inl Hf))] (fun _ => none) (fun u => (KR u.2.2.1.1 6) ∧ (rgI u.2.2.1.2.1 (-1) 5 6) ∧ (rgI u.2.2.1.2.2.2 0 1000000 120) ∧ (∀ r : Int, 0 ≤ r → r < gz Af 0 → gz u.2.2.1.2.2.2 ((6 * x) + r) = knF (eR Af) (rL Af) x r) ∧ (∀ e : Int, 0 ≤ e → (e < 6 * x ∨ 6 * x + 6 ≤ e) → gz u.2.2.1.2.2.2 e = gz Hf e) ∧ (∀ r : Int, 0 ≤ r → r < gz Af 0 → gz u.2.2.1.1 r = knF (eR Af) (rL Af) x r)) (fun u => [(hm, .inr (12, [.ref Ma, .ref Mn, .int (iZ Mst), .long Mtp, .long Mbt, .ref Ms, .ref My, .ref Mt, .ref Mp, .ref Mx, .int (iZ Mtd), .int (iZ Msz), .int (iZ Mtk), .int (iZ Mfr), .int (iZ Men), .int (iZ Mva), .int (iZ Mfk), .int (iZ Mfp), .int (iZ Mfs), .int (iZ Mse), .int (iZ Mlt), .ref Mo, .int (iZ Mdp), .int (iZ Mct), .ref Mk, .ref Ml, .ref Mb, .ref Mh, .ref Mc, .int (iZ Mdr), .int (iZ Mrs), .ref Mz, .ref Mr, .ref Mq, .int (iZ Mit), .int (iZ Mmk)])), (Ma, .inl (k 1, 5340, .inl Af)), (Mk, .inl (k 1, 6, .inl u.2.2.1.1)), (Ml, .inl (k 1, 6, .inl u.2.2.1.2.1)), (Mb, .inl (k 1, 6, .inl u.2.2.1.2.2.1)), (Mh, .inl (k 1, 120, .inl u.2.2.1.2.2.2))]) := by
  refine MW (by decide) (Nat.le_of_ble_eq_true rfl) (fun p e s m below meth c ls A hx hb hml hr hlocks hin hts hown hKK hP hD hS hA hl => ?_)
  have hK := hKK.1
  have hl : lv_has ls 3 [(0, .ref hm), (1, .int (iZ x))] := hl
  obtain ⟨m0, m1, m3, m4, m5, mF, mO, mS⟩ := id hM
  have hod := mO x h9x.1 h9x.2
  refine lv_aload_n hx hb dX12_laysOrder_0 rfl (lv_at hl 0 rfl) ?_
  refine lv_aload_n hx hb dX12_laysOrder_1 rfl (lv_at hl 0 rfl) ?_
  refine va_get (D := D) (ci := 12) (v := .ref Ma) (C := RX12) (T := TX12) (N := 36) hx hb hts iX12 hown hK hP 0 rfl rfl 0 (bl rfl) (hts _ qf_X12_7) (fun _ h => h) rfl dX12_laysOrder_2 ?_
  refine lv_iload_n hx hb dX12_laysOrder_5 rfl (lv_at hl 1 rfl) ?_
  refine CRS (As := [.int (iZ x)]) (rest := [.ref Ma, .ref hm]) hx hb hml hown hts hKK (hP.sub (ws' := []) [] rfl) (m_givenRow l D k x) ci_X12_givenRow qm_X12_315 ⟨Nat.le_of_ble_eq_true rfl, Nat.le_of_ble_eq_true rfl⟩ ⟨Nat.le_of_ble_eq_true rfl, Nat.le_of_ble_eq_true rfl⟩ rfl hl.1 rfl (Nat.le_of_ble_eq_true rfl) dX12_laysOrder_6 ?_
  refine va_iald hx hb hK hP 1 1 rfl rfl (zin (e := (78 + (2 * x))) (n := 5340) ⟨by omega, by omega⟩ (bl rfl)) dX12_laysOrder_9 ?_
  refine lv_topi (fun x_1 ex_1 => ?_)
  obtain rfl : x_1 = iZ (gz Af (78 + (2 * x))) := ex_1.trans (gz_eq ⟨by omega, by omega⟩)
  have h_2 := gz_rg Af (78 + (2 * x))
  refine lv_aload_n hx hb dX12_laysOrder_10 rfl (lv_at hl 0 rfl) ?_
  refine va_get (D := D) (ci := 12) (v := .ref Ma) (C := RX12) (T := TX12) (N := 36) hx hb hts iX12 hown hK hP 0 rfl rfl 0 (bl rfl) (hts _ qf_X12_7) (fun _ h => h) rfl dX12_laysOrder_11 ?_
  refine lv_iload_n hx hb dX12_laysOrder_14 rfl (lv_at hl 1 rfl) ?_
  refine CRS (As := [.int (iZ x)]) (rest := [.ref Ma, .int (iZ (gz Af (78 + (2 * x)))), .ref hm]) hx hb hml hown hts hKK (hP.sub (ws' := []) [] rfl) (m_givenRow l D k x) ci_X12_givenRow qm_X12_315 ⟨Nat.le_of_ble_eq_true rfl, Nat.le_of_ble_eq_true rfl⟩ ⟨Nat.le_of_ble_eq_true rfl, Nat.le_of_ble_eq_true rfl⟩ rfl hl.1 rfl (Nat.le_of_ble_eq_true rfl) dX12_laysOrder_15 ?_
  refine lv_iconst (v := iZ 1) hx hb dX12_laysOrder_18 rfl ?_
  refine lv_iadd hx hb dX12_laysOrder_19 ?_
  refine lv_topi (fun x_3 ex_3 => ?_)
  obtain rfl : x_3 = iZ ((78 + (2 * x)) + 1) := ex_3.trans (iZ_add (78 + (2 * x)) 1)
  refine va_iald hx hb hK hP 1 1 rfl rfl (zin (e := ((78 + (2 * x)) + 1)) (n := 5340) ⟨by omega, by omega⟩ (bl rfl)) dX12_laysOrder_20 ?_
  refine lv_topi (fun x_4 ex_4 => ?_)
  obtain rfl : x_4 = iZ (gz Af ((78 + (2 * x)) + 1)) := ex_4.trans (gz_eq ⟨by omega, by omega⟩)
  have h_5 := gz_rg Af ((78 + (2 * x)) + 1)
  refine CWV (As := [.int (iZ (gz Af (78 + (2 * x)))), .int (iZ (gz Af ((78 + (2 * x)) + 1)))]) (rest := []) (wc := _) (wr := [(Mh, .inl (k 1, 120, .inl Hf))]) hx hb hml hown hts hKK hP hD hS hA (m_lays l D k hm Ma Mn Ms My Mt Mp Mx Mo Mk Ml Mb Mh Mc Mz Mr Mq Mst Mtd Msz Mtk Mfr Men Mva Mfk Mfp Mfs Mse Mlt Mdp Mct Mdr Mrs Mit Mmk Mtp Mbt Af Kf Lf Bf (gz Af (78 + (2 * x))) (gz Af ((78 + (2 * x)) + 1)) hM ⟨by omega, by omega⟩ ⟨by omega, by omega⟩) ci_X12_lays qm_X12_302 ⟨Nat.le_of_ble_eq_true rfl, Nat.le_of_ble_eq_true rfl⟩ ⟨Nat.le_of_ble_eq_true rfl, Nat.le_of_ble_eq_true rfl⟩ [0, 1, 2, 3, 4] [5] rfl rfl rfl rfl rfl (dj rfl) 0 rfl rfl rfl hl.1 rfl (Nat.le_of_ble_eq_true rfl) dX12_laysOrder_21 (fun u_6 H locs hφ hP hD hS => ?_)
  obtain ⟨p_7, p_8, p_9⟩ : (KR u_6.2.2.1.1 6) ∧ (rgI u_6.2.2.1.2.1 (-1) 5 6) ∧ (isNW (arF (sh Af 10) (sh Af 46) (gz Af 1)) (gz Af 0) (gz Af (78 + (2 * x))) (gz Af ((78 + (2 * x)) + 1)) (gz u_6.2.2.1.1) (gz u_6.2.2.1.2.1) (gz u_6.2.2.1.2.2)) := hφ
  refine W.eq (g2 := F0 m 24 ls []) rfl ?_
  refine lv_iconst (v := iZ 0) hx hb dX12_laysOrder_24 rfl ?_
  refine lv_istore_n (lv' := [(2, .int (iZ 0)), (0, .ref hm), (1, .int (iZ x))]) hx hb dX12_laysOrder_25 rfl hl (bl rfl) rfl (fun ls hl => ?_)
  have HL26 : ∀ (fu : Nat) (v2_26 : Int) (Hfq26 : Nat → Int32) (H : Heap) (locs : List Loc) (ls : Array Slot), ((5) + 2 - v2_26) < (fu : Int) → ((0 ≤ v2_26 ∧ v2_26 ≤ (5) + 1)) → (rgI Hfq26 0 1000000 120) → ((∀ r : Int, 0 ≤ r → r < v2_26 → gz Hfq26 ((6 * x) + r) = gz u_6.2.2.1.1 r) ∧ ∀ e : Int, 0 ≤ e → (e < 6 * x ∨ 6 * x + v2_26 ≤ e) → gz Hfq26 e = gz Hf e) → va_P D vwCl [(Mh, .inl (k 1, 120, .inl Hfq26)), (hm, .inr (12, [.ref Ma, .ref Mn, .int (iZ Mst), .long Mtp, .long Mbt, .ref Ms, .ref My, .ref Mt, .ref Mp, .ref Mx, .int (iZ Mtd), .int (iZ Msz), .int (iZ Mtk), .int (iZ Mfr), .int (iZ Men), .int (iZ Mva), .int (iZ Mfk), .int (iZ Mfp), .int (iZ Mfs), .int (iZ Mse), .int (iZ Mlt), .ref Mo, .int (iZ Mdp), .int (iZ Mct), .ref Mk, .ref Ml, .ref Mb, .ref Mh, .ref Mc, .int (iZ Mdr), .int (iZ Mrs), .ref Mz, .ref Mr, .ref Mq, .int (iZ Mit), .int (iZ Mmk)])), (Ma, .inl (k 1, 5340, .inl Af)), (Mk, .inl (k 1, 6, .inl u_6.2.2.1.1)), (Ml, .inl (k 1, 6, .inl u_6.2.2.1.2.1)), (Mb, .inl (k 1, 6, .inl u_6.2.2.1.2.2))] H → va_D A [(Mh, .inl (k 1, 120, .inl Hfq26)), (hm, .inr (12, [.ref Ma, .ref Mn, .int (iZ Mst), .long Mtp, .long Mbt, .ref Ms, .ref My, .ref Mt, .ref Mp, .ref Mx, .int (iZ Mtd), .int (iZ Msz), .int (iZ Mtk), .int (iZ Mfr), .int (iZ Men), .int (iZ Mva), .int (iZ Mfk), .int (iZ Mfp), .int (iZ Mfs), .int (iZ Mse), .int (iZ Mlt), .ref Mo, .int (iZ Mdp), .int (iZ Mct), .ref Mk, .ref Ml, .ref Mb, .ref Mh, .ref Mc, .int (iZ Mdr), .int (iZ Mrs), .ref Mz, .ref Mr, .ref Mq, .int (iZ Mit), .int (iZ Mmk)])), (Ma, .inl (k 1, 5340, .inl Af)), (Mk, .inl (k 1, 6, .inl u_6.2.2.1.1)), (Ml, .inl (k 1, 6, .inl u_6.2.2.1.2.1)), (Mb, .inl (k 1, 6, .inl u_6.2.2.1.2.2))] → va_S A s.heap H locs → lv_has ls 3 [(2, .int (iZ v2_26)), (0, .ref hm), (1, .int (iZ x))] → W p l e (rj 6 0 0) s m [.ref hm, .int (iZ x)].toArray below meth c H locs 0 0 (MQ below (QW (σ := ((Int) × (Int64) × ((Nat → Int32) × (Nat → Int32) × (Nat → Int32) × (Nat → Int32)) × (Unit))) (fun _ => none) (fun u => (KR u.2.2.1.1 6) ∧ (rgI u.2.2.1.2.1 (-1) 5 6) ∧ (rgI u.2.2.1.2.2.2 0 1000000 120) ∧ (∀ r : Int, 0 ≤ r → r < gz Af 0 → gz u.2.2.1.2.2.2 ((6 * x) + r) = knF (eR Af) (rL Af) x r) ∧ (∀ e : Int, 0 ≤ e → (e < 6 * x ∨ 6 * x + 6 ≤ e) → gz u.2.2.1.2.2.2 e = gz Hf e) ∧ (∀ r : Int, 0 ≤ r → r < gz Af 0 → gz u.2.2.1.1 r = knF (eR Af) (rL Af) x r)) (fun u => [(hm, .inr (12, [.ref Ma, .ref Mn, .int (iZ Mst), .long Mtp, .long Mbt, .ref Ms, .ref My, .ref Mt, .ref Mp, .ref Mx, .int (iZ Mtd), .int (iZ Msz), .int (iZ Mtk), .int (iZ Mfr), .int (iZ Men), .int (iZ Mva), .int (iZ Mfk), .int (iZ Mfp), .int (iZ Mfs), .int (iZ Mse), .int (iZ Mlt), .ref Mo, .int (iZ Mdp), .int (iZ Mct), .ref Mk, .ref Ml, .ref Mb, .ref Mh, .ref Mc, .int (iZ Mdr), .int (iZ Mrs), .ref Mz, .ref Mr, .ref Mq, .int (iZ Mit), .int (iZ Mmk)])), (Ma, .inl (k 1, 5340, .inl Af)), (Mk, .inl (k 1, 6, .inl u.2.2.1.1)), (Ml, .inl (k 1, 6, .inl u.2.2.1.2.1)), (Mb, .inl (k 1, 6, .inl u.2.2.1.2.2.1)), (Mh, .inl (k 1, 120, .inl u.2.2.1.2.2.2))]) D A) [.ref hm, .int (iZ x)].toArray s 0 0 A) (F0 m 26 ls []) := by
    intro fu
    induction fu with
    | zero => intro v2_26 Hfq26 H locs ls hμ26 hi26 rgh2 hcp hP hD hS hl; exact absurd hμ26 (by omega)
    | succ fu ih26 =>
      intro v2_26 Hfq26 H locs ls hμ26 hi26 rgh2 hcp hP hD hS hl
      refine lv_iload_n hx hb dX12_laysOrder_26 rfl (lv_at hl 0 rfl) ?_
      refine lv_bipush (v := iZ 6) hx hb dX12_laysOrder_27 bip_6 ?_
      refine lv_icmp_ge (tgt := 55) hx hb dX12_laysOrder_29 rfl (fun c_10 => ?_) (fun c_10 => ?_)
      ·
        have c_10 := (zle (x := iZ 6) (y := iZ v2_26) rfl rfl wn_6 ⟨by omega, by omega⟩).mp c_10
        exact EWv hx hb hr hlocks hS (0, 0, (u_6.2.2.1.1, u_6.2.2.1.2.1, u_6.2.2.1.2.2, Hfq26), ()) rfl ⟨(show KR u_6.2.2.1.1 6 from p_7), (show rgI u_6.2.2.1.2.1 (-1) 5 6 from p_8), (show rgI Hfq26 0 1000000 120 from rgh2), (show ∀ r : Int, 0 ≤ r → r < gz Af 0 → gz Hfq26 ((6 * x) + r) = knF (eR Af) (rL Af) x r from (fun r a b => (hcp.1 r a (by omega)).trans (kn_r hM h9x ⟨a, b⟩ p_9))), (show ∀ e : Int, 0 ≤ e → (e < 6 * x ∨ 6 * x + 6 ≤ e) → gz Hfq26 e = gz Hf e from (fun e a b => hcp.2 e a (by omega))), (show ∀ r : Int, 0 ≤ r → r < gz Af 0 → gz u_6.2.2.1.1 r = knF (eR Af) (rL Af) x r from (fun r a b => kn_r hM h9x ⟨a, b⟩ p_9))⟩ (hP.sub [1, 2, 3, 4, 5, 0] rfl) (hD.sub [1, 2, 3, 4, 5, 0] rfl rfl) dX12_laysOrder_55
      ·
        have c_10 := mt (zle (x := iZ 6) (y := iZ v2_26) rfl rfl wn_6 ⟨by omega, by omega⟩).mpr c_10
        refine lv_aload_n hx hb dX12_laysOrder_32 rfl (lv_at hl 1 rfl) ?_
        refine va_get (D := D) (ci := 12) (v := .ref Mh) (C := RX12) (T := TX12) (N := 36) hx hb hts iX12 hown hK hP 1 rfl rfl 27 (bl rfl) (hts _ qf_X12_56) (fun _ h => h) rfl dX12_laysOrder_33 ?_
        refine lv_bipush (v := iZ 6) hx hb dX12_laysOrder_36 bip_6 ?_
        refine lv_iload_n hx hb dX12_laysOrder_38 rfl (lv_at hl 2 rfl) ?_
        refine lv_imul hx hb dX12_laysOrder_39 ?_
        refine lv_topi (fun x_11 ex_11 => ?_)
        obtain rfl : x_11 = iZ (6 * x) := ex_11.trans (iZ_mul 6 x)
        refine lv_iload_n hx hb dX12_laysOrder_40 rfl (lv_at hl 0 rfl) ?_
        refine lv_iadd hx hb dX12_laysOrder_41 ?_
        refine lv_topi (fun x_12 ex_12 => ?_)
        obtain rfl : x_12 = iZ ((6 * x) + v2_26) := ex_12.trans (iZ_add (6 * x) v2_26)
        refine lv_aload_n hx hb dX12_laysOrder_42 rfl (lv_at hl 1 rfl) ?_
        refine va_get (D := D) (ci := 12) (v := .ref Mk) (C := RX12) (T := TX12) (N := 36) hx hb hts iX12 hown hK hP 1 rfl rfl 24 (bl rfl) (hts _ qf_X12_47) (fun _ h => h) rfl dX12_laysOrder_43 ?_
        refine lv_iload_n hx hb dX12_laysOrder_46 rfl (lv_at hl 0 rfl) ?_
        refine va_iald hx hb hK hP 3 1 rfl rfl (zin (e := v2_26) (n := 6) ⟨by omega, by omega⟩ (bl rfl)) dX12_laysOrder_47 ?_
        refine lv_topi (fun x_13 ex_13 => ?_)
        obtain rfl : x_13 = iZ (gz u_6.2.2.1.1 v2_26) := ex_13.trans (gz_eq ⟨by omega, by omega⟩)
        have h_14 := p_7 v2_26 (by omega) (by omega)
        refine va_iast hx hb hK hP hD hS 0 1 rfl rfl (zin (e := ((6 * x) + v2_26)) (n := 120) ⟨by omega, by omega⟩ (bl rfl)) dX12_laysOrder_48 (fun H locs hP hD hS => ?_)
        obtain ⟨f_15, hf_15⟩ : ∃ gg9, gg9 = upd Hfq26 (iZ ((6 * x) + v2_26)).toNatClampNeg (iZ (gz u_6.2.2.1.1 v2_26)) := ⟨_, rfl⟩
        rw [← hf_15] at hP hD
        have rgf_15 := rg_upd rgh2 hf_15 (by omega) ⟨by omega, by omega⟩ ⟨by omega, by omega⟩
        refine lv_iinc (v := iZ (v2_26 + 1)) (lv' := [(2, .int (iZ (v2_26 + 1))), (0, .ref hm), (1, .int (iZ x))]) hx hb dX12_laysOrder_49 hl (k := 0) rfl (iZ_add v2_26 1) (by decide) rfl (fun ls hl => ?_)
        refine lv_goto (tgt := 26) hx hb dX12_laysOrder_52 rfl ?_
        exact ih26  (v2_26 + 1) f_15 _ _ _ (by omega) (show (0 ≤ (v2_26 + 1) ∧ (v2_26 + 1) ≤ (5) + 1) from ⟨by omega, by omega⟩) (show rgI f_15 0 1000000 120 from rgf_15) (show (∀ r : Int, 0 ≤ r → r < (v2_26 + 1) → gz f_15 ((6 * x) + r) = gz u_6.2.2.1.1 r) ∧ ∀ e : Int, 0 ≤ e → (e < 6 * x ∨ 6 * x + (v2_26 + 1) ≤ e) → gz f_15 e = gz Hf e from ⟨fun r a b => by rw [gz_up hf_15 ⟨by omega, by omega⟩ (gz_rg u_6.2.2.1.1 v2_26) (by omega)]; by_cases c : r = v2_26; rw [c, if_pos rfl]; rw [if_neg (by omega)]; exact hcp.1 r a (by omega), fun e a b => by rw [gz_up hf_15 ⟨by omega, by omega⟩ (gz_rg u_6.2.2.1.1 v2_26) a, if_neg (by omega)]; exact hcp.2 e a (by omega)⟩) (hP.sub [0, 1, 2, 3, 4, 5] rfl) (hD.sub [0, 1, 2, 3, 4, 5] rfl rfl) hS (lv_sub hl [0, 1, 2] rfl)
  exact HL26 8 0 Hf _ _ _ (by omega) (show (0 ≤ 0 ∧ 0 ≤ (5) + 1) from ⟨by omega, by omega⟩) (show rgI Hf 0 1000000 120 from rgH) (show (∀ r : Int, 0 ≤ r → r < 0 → gz Hf ((6 * x) + r) = gz u_6.2.2.1.1 r) ∧ ∀ e : Int, 0 ≤ e → (e < 6 * x ∨ 6 * x + 0 ≤ e) → gz Hf e = gz Hf e from ⟨fun r a b => absurd a (by omega), fun e a b => rfl⟩) (hP.sub [0, 1, 2, 3, 4, 5] rfl) (hD.sub [0, 1, 2, 3, 4, 5] rfl rfl) hS (lv_sub hl [0, 1, 2] rfl)
set_option maxHeartbeats 4000000 in
set_option maxRecDepth 100000 in
theorem r_laysOrders (l : Launch) (D : va_G) (k : Nat → ClassId) (hm : Nat) (Ma : Nat) (Mn : Nat) (Ms : Nat) (My : Nat) (Mt : Nat) (Mp : Nat) (Mx : Nat) (Mo : Nat) (Mk : Nat) (Ml : Nat) (Mb : Nat) (Mh : Nat) (Mc : Nat) (Mz : Nat) (Mr : Nat) (Mq : Nat) (Mst : Int) (Mtd : Int) (Msz : Int) (Mtk : Int) (Mfr : Int) (Men : Int) (Mva : Int) (Mfk : Int) (Mfp : Int) (Mfs : Int) (Mse : Int) (Mlt : Int) (Mdp : Int) (Mct : Int) (Mdr : Int) (Mrs : Int) (Mit : Int) (Mmk : Int) (Mtp : Int64) (Mbt : Int64) (Af : Nat → Int32) (Kf : Nat → Int32) (Lf : Nat → Int32) (Bf : Nat → Int32) (Hf : Nat → Int32) (hM : M0 Af) (rgH : rgI Hf 0 1000000 120) : WD (σ := ((Int) × (Int64) × ((Nat → Int32) × (Nat → Int32) × (Nat → Int32) × (Nat → Int32)) × (Unit))) l yX12_laysOrders cX12_laysOrders 2 none 7 0 0 D k [.ref hm] [(hm, .inr (12, [.ref Ma, .ref Mn, .int (iZ Mst), .long Mtp, .long Mbt, .ref Ms, .ref My, .ref Mt, .ref Mp, .ref Mx, .int (iZ Mtd), .int (iZ Msz), .int (iZ Mtk), .int (iZ Mfr), .int (iZ Men), .int (iZ Mva), .int (iZ Mfk), .int (iZ Mfp), .int (iZ Mfs), .int (iZ Mse), .int (iZ Mlt), .ref Mo, .int (iZ Mdp), .int (iZ Mct), .ref Mk, .ref Ml, .ref Mb, .ref Mh, .ref Mc, .int (iZ Mdr), .int (iZ Mrs), .ref Mz, .ref Mr, .ref Mq, .int (iZ Mit), .int (iZ Mmk)])), (Ma, .inl (k 1, 5340, .inl Af)), (Mk, .inl (k 1, 6, .inl Kf)), (Ml, .inl (k 1, 6, .inl Lf)), (Mb, .inl (k 1, 6, .inl Bf)), (Mh, .inl (k 1, 120, .inl Hf))] (fun _ => none) (fun u => (rgI u.2.2.1.2.2.2 0 1000000 120) ∧ (KNR Af u.2.2.1.2.2.2 (gz Af 4))) (fun u => [(hm, .inr (12, [.ref Ma, .ref Mn, .int (iZ Mst), .long Mtp, .long Mbt, .ref Ms, .ref My, .ref Mt, .ref Mp, .ref Mx, .int (iZ Mtd), .int (iZ Msz), .int (iZ Mtk), .int (iZ Mfr), .int (iZ Men), .int (iZ Mva), .int (iZ Mfk), .int (iZ Mfp), .int (iZ Mfs), .int (iZ Mse), .int (iZ Mlt), .ref Mo, .int (iZ Mdp), .int (iZ Mct), .ref Mk, .ref Ml, .ref Mb, .ref Mh, .ref Mc, .int (iZ Mdr), .int (iZ Mrs), .ref Mz, .ref Mr, .ref Mq, .int (iZ Mit), .int (iZ Mmk)])), (Ma, .inl (k 1, 5340, .inl Af)), (Mk, .inl (k 1, 6, .inl u.2.2.1.1)), (Ml, .inl (k 1, 6, .inl u.2.2.1.2.1)), (Mb, .inl (k 1, 6, .inl u.2.2.1.2.2.1)), (Mh, .inl (k 1, 120, .inl u.2.2.1.2.2.2))]) := by
  refine MW (by decide) (Nat.le_of_ble_eq_true rfl) (fun p e s m below meth c ls A hx hb hml hr hlocks hin hts hown hKK hP hD hS hA hl => ?_)
  have hK := hKK.1
  have hl : lv_has ls 2 [(0, .ref hm)] := hl
  obtain ⟨m0, m1, m3, m4, m5, mF, mO, mS⟩ := id hM
  refine lv_iconst (v := iZ 0) hx hb dX12_laysOrders_0 rfl ?_
  refine lv_istore_n (lv' := [(1, .int (iZ 0)), (0, .ref hm)]) hx hb dX12_laysOrders_1 rfl hl (bl rfl) rfl (fun ls hl => ?_)
  have HL2 : ∀ (fu : Nat) (v1_2 : Int) (Kfq2 : Nat → Int32) (Lfq2 : Nat → Int32) (Bfq2 : Nat → Int32) (Hfq2 : Nat → Int32) (H : Heap) (locs : List Loc) (ls : Array Slot), ((gz Af 4 - 1) + 2 - v1_2) < (fu : Int) → ((0 ≤ v1_2 ∧ v1_2 ≤ (gz Af 4 - 1) + 1)) → (rgI Hfq2 0 1000000 120) → (KNR Af Hfq2 v1_2) → va_P D vwCl [(hm, .inr (12, [.ref Ma, .ref Mn, .int (iZ Mst), .long Mtp, .long Mbt, .ref Ms, .ref My, .ref Mt, .ref Mp, .ref Mx, .int (iZ Mtd), .int (iZ Msz), .int (iZ Mtk), .int (iZ Mfr), .int (iZ Men), .int (iZ Mva), .int (iZ Mfk), .int (iZ Mfp), .int (iZ Mfs), .int (iZ Mse), .int (iZ Mlt), .ref Mo, .int (iZ Mdp), .int (iZ Mct), .ref Mk, .ref Ml, .ref Mb, .ref Mh, .ref Mc, .int (iZ Mdr), .int (iZ Mrs), .ref Mz, .ref Mr, .ref Mq, .int (iZ Mit), .int (iZ Mmk)])), (Ma, .inl (k 1, 5340, .inl Af)), (Mk, .inl (k 1, 6, .inl Kfq2)), (Ml, .inl (k 1, 6, .inl Lfq2)), (Mb, .inl (k 1, 6, .inl Bfq2)), (Mh, .inl (k 1, 120, .inl Hfq2))] H → va_D A [(hm, .inr (12, [.ref Ma, .ref Mn, .int (iZ Mst), .long Mtp, .long Mbt, .ref Ms, .ref My, .ref Mt, .ref Mp, .ref Mx, .int (iZ Mtd), .int (iZ Msz), .int (iZ Mtk), .int (iZ Mfr), .int (iZ Men), .int (iZ Mva), .int (iZ Mfk), .int (iZ Mfp), .int (iZ Mfs), .int (iZ Mse), .int (iZ Mlt), .ref Mo, .int (iZ Mdp), .int (iZ Mct), .ref Mk, .ref Ml, .ref Mb, .ref Mh, .ref Mc, .int (iZ Mdr), .int (iZ Mrs), .ref Mz, .ref Mr, .ref Mq, .int (iZ Mit), .int (iZ Mmk)])), (Ma, .inl (k 1, 5340, .inl Af)), (Mk, .inl (k 1, 6, .inl Kfq2)), (Ml, .inl (k 1, 6, .inl Lfq2)), (Mb, .inl (k 1, 6, .inl Bfq2)), (Mh, .inl (k 1, 120, .inl Hfq2))] → va_S A s.heap H locs → lv_has ls 2 [(1, .int (iZ v1_2)), (0, .ref hm)] → W p l e (rj 7 0 0) s m [.ref hm].toArray below meth c H locs 0 0 (MQ below (QW (σ := ((Int) × (Int64) × ((Nat → Int32) × (Nat → Int32) × (Nat → Int32) × (Nat → Int32)) × (Unit))) (fun _ => none) (fun u => (rgI u.2.2.1.2.2.2 0 1000000 120) ∧ (KNR Af u.2.2.1.2.2.2 (gz Af 4))) (fun u => [(hm, .inr (12, [.ref Ma, .ref Mn, .int (iZ Mst), .long Mtp, .long Mbt, .ref Ms, .ref My, .ref Mt, .ref Mp, .ref Mx, .int (iZ Mtd), .int (iZ Msz), .int (iZ Mtk), .int (iZ Mfr), .int (iZ Men), .int (iZ Mva), .int (iZ Mfk), .int (iZ Mfp), .int (iZ Mfs), .int (iZ Mse), .int (iZ Mlt), .ref Mo, .int (iZ Mdp), .int (iZ Mct), .ref Mk, .ref Ml, .ref Mb, .ref Mh, .ref Mc, .int (iZ Mdr), .int (iZ Mrs), .ref Mz, .ref Mr, .ref Mq, .int (iZ Mit), .int (iZ Mmk)])), (Ma, .inl (k 1, 5340, .inl Af)), (Mk, .inl (k 1, 6, .inl u.2.2.1.1)), (Ml, .inl (k 1, 6, .inl u.2.2.1.2.1)), (Mb, .inl (k 1, 6, .inl u.2.2.1.2.2.1)), (Mh, .inl (k 1, 120, .inl u.2.2.1.2.2.2))]) D A) [.ref hm].toArray s 0 0 A) (F0 m 2 ls []) := by
    intro fu
    induction fu with
    | zero => intro v1_2 Kfq2 Lfq2 Bfq2 Hfq2 H locs ls hμ2 hi2 rgh2 hkn hP hD hS hl; exact absurd hμ2 (by omega)
    | succ fu ih2 =>
      intro v1_2 Kfq2 Lfq2 Bfq2 Hfq2 H locs ls hμ2 hi2 rgh2 hkn hP hD hS hl
      refine lv_iload_n hx hb dX12_laysOrders_2 rfl (lv_at hl 0 rfl) ?_
      refine lv_aload_n hx hb dX12_laysOrders_3 rfl (lv_at hl 1 rfl) ?_
      refine va_get (D := D) (ci := 12) (v := .ref Ma) (C := RX12) (T := TX12) (N := 36) hx hb hts iX12 hown hK hP 0 rfl rfl 0 (bl rfl) (hts _ qf_X12_7) (fun _ h => h) rfl dX12_laysOrders_4 ?_
      refine lv_iconst (v := iZ 4) hx hb dX12_laysOrders_7 rfl ?_
      refine va_iald hx hb hK hP 1 1 rfl rfl (zin (e := 4) (n := 5340) ⟨by omega, by omega⟩ (bl rfl)) dX12_laysOrders_8 ?_
      refine lv_topi (fun x_1 ex_1 => ?_)
      obtain rfl : x_1 = iZ (gz Af 4) := ex_1.trans (gz_eq ⟨by omega, by omega⟩)
      have h_2 := gz_rg Af 4
      refine lv_icmp_ge (tgt := 23) hx hb dX12_laysOrders_9 rfl (fun c_3 => ?_) (fun c_3 => ?_)
      ·
        have c_3 := (zle (x := iZ (gz Af 4)) (y := iZ v1_2) rfl rfl (gz_rg Af 4) ⟨by omega, by omega⟩).mp c_3
        exact EWv hx hb hr hlocks hS (0, 0, (Kfq2, Lfq2, Bfq2, Hfq2), ()) rfl ⟨(show rgI Hfq2 0 1000000 120 from rgh2), (show KNR Af Hfq2 (gz Af 4) from (fun o r a b c d => hkn o r a (by omega) c d))⟩ (hP.sub [0, 1, 2, 3, 4, 5] rfl) (hD.sub [0, 1, 2, 3, 4, 5] rfl rfl) dX12_laysOrders_23
      ·
        have c_3 := mt (zle (x := iZ (gz Af 4)) (y := iZ v1_2) rfl rfl (gz_rg Af 4) ⟨by omega, by omega⟩).mpr c_3
        refine lv_aload_n hx hb dX12_laysOrders_12 rfl (lv_at hl 1 rfl) ?_
        refine lv_iload_n hx hb dX12_laysOrders_13 rfl (lv_at hl 0 rfl) ?_
        refine CWV (As := [.int (iZ v1_2)]) (rest := []) (wc := _) (wr := []) hx hb hml hown hts hKK hP hD hS hA (r_laysOrder l D k hm Ma Mn Ms My Mt Mp Mx Mo Mk Ml Mb Mh Mc Mz Mr Mq Mst Mtd Msz Mtk Mfr Men Mva Mfk Mfp Mfs Mse Mlt Mdp Mct Mdr Mrs Mit Mmk Mtp Mbt Af Kfq2 Lfq2 Bfq2 Hfq2 v1_2 hM ⟨by omega, by omega⟩ rgh2) ci_X12_laysOrder qm_X12_318 ⟨Nat.le_of_ble_eq_true rfl, Nat.le_of_ble_eq_true rfl⟩ ⟨Nat.le_of_ble_eq_true rfl, Nat.le_of_ble_eq_true rfl⟩ [0, 1, 2, 3, 4, 5] [] rfl rfl rfl rfl rfl (dj rfl) 0 rfl rfl rfl hl.1 rfl (Nat.le_of_ble_eq_true rfl) dX12_laysOrders_14 (fun u_4 H locs hφ hP hD hS => ?_)
        obtain ⟨p_5, p_6, p_7, p_8, p_9, p_10⟩ : (KR u_4.2.2.1.1 6) ∧ (rgI u_4.2.2.1.2.1 (-1) 5 6) ∧ (rgI u_4.2.2.1.2.2.2 0 1000000 120) ∧ (∀ r : Int, 0 ≤ r → r < gz Af 0 → gz u_4.2.2.1.2.2.2 ((6 * v1_2) + r) = knF (eR Af) (rL Af) v1_2 r) ∧ (∀ e : Int, 0 ≤ e → (e < 6 * v1_2 ∨ 6 * v1_2 + 6 ≤ e) → gz u_4.2.2.1.2.2.2 e = gz Hfq2 e) ∧ (∀ r : Int, 0 ≤ r → r < gz Af 0 → gz u_4.2.2.1.1 r = knF (eR Af) (rL Af) v1_2 r) := hφ
        refine W.eq (g2 := F0 m 17 ls []) rfl ?_
        refine lv_iinc (v := iZ (v1_2 + 1)) (lv' := [(1, .int (iZ (v1_2 + 1))), (0, .ref hm)]) hx hb dX12_laysOrders_17 hl (k := 0) rfl (iZ_add v1_2 1) (by decide) rfl (fun ls hl => ?_)
        refine lv_goto (tgt := 2) hx hb dX12_laysOrders_20 rfl ?_
        exact ih2  (v1_2 + 1) u_4.2.2.1.1 u_4.2.2.1.2.1 u_4.2.2.1.2.2.1 u_4.2.2.1.2.2.2 _ _ _ (by omega) (show (0 ≤ (v1_2 + 1) ∧ (v1_2 + 1) ≤ (gz Af 4 - 1) + 1) from ⟨by omega, by omega⟩) (show rgI u_4.2.2.1.2.2.2 0 1000000 120 from p_7) (show KNR Af u_4.2.2.1.2.2.2 (v1_2 + 1) from (fun o r a b c d => by by_cases q : o = v1_2; rw [q]; exact p_8 r c d; exact (p_9 _ (by omega) (by omega)).trans (hkn o r a (by omega) c d))) (hP.sub [0, 1, 2, 3, 4, 5] rfl) (hD.sub [0, 1, 2, 3, 4, 5] rfl rfl) hS (lv_sub hl [0, 1] rfl)
  exact HL2 24 0 Kf Lf Bf Hf _ _ _ (by omega) (show (0 ≤ 0 ∧ 0 ≤ (gz Af 4 - 1) + 1) from ⟨by omega, by omega⟩) (show rgI Hf 0 1000000 120 from rgH) (show KNR Af Hf 0 from (fun o r a b => absurd a (by omega))) (hP.sub [0, 1, 2, 3, 4, 5] rfl) (hD.sub [0, 1, 2, 3, 4, 5] rfl rfl) hS (lv_sub hl [0, 1] rfl)
set_option maxHeartbeats 4000000 in
set_option maxRecDepth 100000 in
theorem r_worth (l : Launch) (D : va_G) (k : Nat → ClassId) (fs : List Value) (hm : Nat) (Ma : Nat) (Mh : Nat) (Af : Nat → Int32) (Hf : Nat → Int32) (x : Int) (y : Int) (f0 : fs[0]? = some (.ref Ma)) (f27 : fs[27]? = some (.ref Mh)) (hM : M0 Af) (h9x : 0 ≤ x ∧ x < gz Af 4) (h9y : 0 ≤ y ∧ y < gz Af 0) (rgH : rgI Hf 0 1000000 120) (hkr : KNR Af Hf (gz Af 4)) : RP l yX12_worth cX12_worth 4 (some .int) 1 D k [.ref hm, .int (iZ x), .int (iZ y)] [(hm, .inr (12, fs)), (Ma, .inl (k 1, 5340, .inl Af)), (Mh, .inl (k 1, 120, .inl Hf))] (fun z => z = wtF (eR Af) (rL Af) y x ∧ (-1000000 ≤ z ∧ z ≤ 1000000)) := by
  refine MRP (by decide) (Nat.le_of_ble_eq_true rfl) (fun p e s m below meth c ls hx hb hml hr hlocks hts hown hKK hP hl => ?_)
  have hK := hKK.1
  have hl : lv_has ls 4 [(0, .ref hm), (1, .int (iZ x)), (2, .int (iZ y))] := hl
  obtain ⟨m0, m1, m3, m4, m5, mF, mO, mS⟩ := id hM
  have hod := mO x h9x.1 h9x.2
  have hfx := hM.fx _ hod.1.1 hod.1.2
  have hwt := wt_r (H := Hf) hM h9x h9y (hkr x y h9x.1 h9x.2 h9y.1 h9y.2)
  refine lv_aload_n hx hb dX12_worth_0 rfl (lv_at hl 0 rfl) ?_
  refine va_get (D := D) (ci := 12) (v := .ref Ma) (C := RX12) (T := TX12) (N := 36) hx hb hts iX12 hown hK hP 0 rfl rfl 0 (bl rfl) (hts _ qf_X12_7) (fun _ h => h) f0 dX12_worth_1 ?_
  refine lv_iconst (v := iZ 2) hx hb dX12_worth_4 rfl ?_
  refine va_iald hx hb hK hP 1 1 rfl rfl (zin (e := 2) (n := 5340) ⟨by omega, by omega⟩ (bl rfl)) dX12_worth_5 ?_
  refine lv_topi (fun x_1 ex_1 => ?_)
  obtain rfl : x_1 = iZ (gz Af 2) := ex_1.trans (gz_eq ⟨by omega, by omega⟩)
  have h_2 := gz_rg Af 2
  refine lv_istore_n (lv' := [(3, .int (iZ (gz Af 2))), (0, .ref hm), (1, .int (iZ x)), (2, .int (iZ y))]) hx hb dX12_worth_6 rfl hl (bl rfl) rfl (fun ls hl => ?_)
  refine lv_iload_n hx hb dX12_worth_7 rfl (lv_at hl 0 rfl) ?_
  refine lv_if_ne (tgt := 25) hx hb dX12_worth_8 rfl (fun c_3 => ?_) (fun c_3 => ?_)
  ·
    have c_3 := mt (zeq (x := iZ (gz Af 2)) (y := iZ 0) rfl rfl (gz_rg Af 2) wn_0).mpr c_3
    refine lv_iload_n hx hb dX12_worth_25 rfl (lv_at hl 0 rfl) ?_
    refine lv_iconst (v := iZ 1) hx hb dX12_worth_26 rfl ?_
    refine lv_icmp_ne (tgt := 45) hx hb dX12_worth_27 rfl (fun c_4 => ?_) (fun c_4 => ?_)
    ·
      have c_4 := mt (zeq (x := iZ (gz Af 2)) (y := iZ 1) rfl rfl (gz_rg Af 2) wn_1).mpr c_4
      refine lv_iload_n hx hb dX12_worth_45 rfl (lv_at hl 0 rfl) ?_
      refine lv_iconst (v := iZ 2) hx hb dX12_worth_46 rfl ?_
      refine lv_icmp_ne (tgt := 73) hx hb dX12_worth_47 rfl (fun c_5 => ?_) (fun c_5 => ?_)
      ·
        have c_5 := mt (zeq (x := iZ (gz Af 2)) (y := iZ 2) rfl rfl (gz_rg Af 2) wn_2).mpr c_5
        refine lv_aload_n hx hb dX12_worth_73 rfl (lv_at hl 1 rfl) ?_
        refine va_get (D := D) (ci := 12) (v := .ref Ma) (C := RX12) (T := TX12) (N := 36) hx hb hts iX12 hown hK hP 0 rfl rfl 0 (bl rfl) (hts _ qf_X12_7) (fun _ h => h) f0 dX12_worth_74 ?_
        refine lv_iload_n hx hb dX12_worth_77 rfl (lv_at hl 2 rfl) ?_
        refine CRS (As := [.int (iZ x)]) (rest := [.ref Ma]) hx hb hml hown hts hKK (hP.sub (ws' := []) [] rfl) (m_givenRow l D k x) ci_X12_givenRow qm_X12_315 ⟨Nat.le_of_ble_eq_true rfl, Nat.le_of_ble_eq_true rfl⟩ ⟨Nat.le_of_ble_eq_true rfl, Nat.le_of_ble_eq_true rfl⟩ rfl hl.1 rfl (Nat.le_of_ble_eq_true rfl) dX12_worth_78 ?_
        refine lv_iconst (v := iZ 1) hx hb dX12_worth_81 rfl ?_
        refine lv_iadd hx hb dX12_worth_82 ?_
        refine lv_topi (fun x_6 ex_6 => ?_)
        obtain rfl : x_6 = iZ ((78 + (2 * x)) + 1) := ex_6.trans (iZ_add (78 + (2 * x)) 1)
        refine va_iald hx hb hK hP 1 1 rfl rfl (zin (e := ((78 + (2 * x)) + 1)) (n := 5340) ⟨by omega, by omega⟩ (bl rfl)) dX12_worth_83 ?_
        refine lv_topi (fun x_7 ex_7 => ?_)
        obtain rfl : x_7 = iZ (gz Af ((78 + (2 * x)) + 1)) := ex_7.trans (gz_eq ⟨by omega, by omega⟩)
        have h_8 := gz_rg Af ((78 + (2 * x)) + 1)
        exact EPi hx hb hr hlocks (by omega) dX12_worth_84
      ·
        have c_5 := (zeq (x := iZ (gz Af 2)) (y := iZ 2) rfl rfl (gz_rg Af 2) wn_2).mp c_5
        refine lv_aload_n hx hb dX12_worth_50 rfl (lv_at hl 1 rfl) ?_
        refine va_get (D := D) (ci := 12) (v := .ref Ma) (C := RX12) (T := TX12) (N := 36) hx hb hts iX12 hown hK hP 0 rfl rfl 0 (bl rfl) (hts _ qf_X12_7) (fun _ h => h) f0 dX12_worth_51 ?_
        refine lv_aload_n hx hb dX12_worth_54 rfl (lv_at hl 1 rfl) ?_
        refine va_get (D := D) (ci := 12) (v := .ref Ma) (C := RX12) (T := TX12) (N := 36) hx hb hts iX12 hown hK hP 0 rfl rfl 0 (bl rfl) (hts _ qf_X12_7) (fun _ h => h) f0 dX12_worth_55 ?_
        refine lv_iload_n hx hb dX12_worth_58 rfl (lv_at hl 2 rfl) ?_
        refine CRS (As := [.int (iZ x)]) (rest := [.ref Ma, .ref Ma]) hx hb hml hown hts hKK (hP.sub (ws' := []) [] rfl) (m_givenRow l D k x) ci_X12_givenRow qm_X12_315 ⟨Nat.le_of_ble_eq_true rfl, Nat.le_of_ble_eq_true rfl⟩ ⟨Nat.le_of_ble_eq_true rfl, Nat.le_of_ble_eq_true rfl⟩ rfl hl.1 rfl (Nat.le_of_ble_eq_true rfl) dX12_worth_59 ?_
        refine va_iald hx hb hK hP 1 1 rfl rfl (zin (e := (78 + (2 * x))) (n := 5340) ⟨by omega, by omega⟩ (bl rfl)) dX12_worth_62 ?_
        refine lv_topi (fun x_9 ex_9 => ?_)
        obtain rfl : x_9 = iZ (gz Af (78 + (2 * x))) := ex_9.trans (gz_eq ⟨by omega, by omega⟩)
        have h_10 := gz_rg Af (78 + (2 * x))
        refine CRS (As := [.int (iZ (gz Af (78 + (2 * x))))]) (rest := [.ref Ma]) hx hb hml hown hts hKK (hP.sub (ws' := []) [] rfl) (m_rockRow l D k (gz Af (78 + (2 * x)))) ci_X12_rockRow qm_X12_246 ⟨Nat.le_of_ble_eq_true rfl, Nat.le_of_ble_eq_true rfl⟩ ⟨Nat.le_of_ble_eq_true rfl, Nat.le_of_ble_eq_true rfl⟩ rfl hl.1 rfl (Nat.le_of_ble_eq_true rfl) dX12_worth_63 ?_
        refine lv_iconst (v := iZ 3) hx hb dX12_worth_66 rfl ?_
        refine lv_iadd hx hb dX12_worth_67 ?_
        refine lv_topi (fun x_11 ex_11 => ?_)
        obtain rfl : x_11 = iZ ((10 + (6 * (gz Af (78 + (2 * x))))) + 3) := ex_11.trans (iZ_add (10 + (6 * (gz Af (78 + (2 * x))))) 3)
        refine va_iald hx hb hK hP 1 1 rfl rfl (zin (e := ((10 + (6 * (gz Af (78 + (2 * x))))) + 3)) (n := 5340) ⟨by omega, by omega⟩ (bl rfl)) dX12_worth_68 ?_
        refine lv_topi (fun x_12 ex_12 => ?_)
        obtain rfl : x_12 = iZ (gz Af ((10 + (6 * (gz Af (78 + (2 * x))))) + 3)) := ex_12.trans (gz_eq ⟨by omega, by omega⟩)
        have h_13 := gz_rg Af ((10 + (6 * (gz Af (78 + (2 * x))))) + 3)
        refine lv_ineg hx hb dX12_worth_69 ?_
        refine lv_topi (fun x_14 ex_14 => ?_)
        obtain rfl : x_14 = iZ (-(gz Af ((10 + (6 * (gz Af (78 + (2 * x))))) + 3))) := ex_14.trans (iZ_neg (gz Af ((10 + (6 * (gz Af (78 + (2 * x))))) + 3)))
        refine lv_goto (tgt := 84) hx hb dX12_worth_70 rfl ?_
        exact EPi hx hb hr hlocks (by omega) dX12_worth_84
    ·
      have c_4 := (zeq (x := iZ (gz Af 2)) (y := iZ 1) rfl rfl (gz_rg Af 2) wn_1).mp c_4
      refine lv_aload_n hx hb dX12_worth_30 rfl (lv_at hl 1 rfl) ?_
      refine va_get (D := D) (ci := 12) (v := .ref Mh) (C := RX12) (T := TX12) (N := 36) hx hb hts iX12 hown hK hP 0 rfl rfl 27 (bl rfl) (hts _ qf_X12_56) (fun _ h => h) f27 dX12_worth_31 ?_
      refine lv_bipush (v := iZ 6) hx hb dX12_worth_34 bip_6 ?_
      refine lv_iload_n hx hb dX12_worth_36 rfl (lv_at hl 2 rfl) ?_
      refine lv_imul hx hb dX12_worth_37 ?_
      refine lv_topi (fun x_15 ex_15 => ?_)
      obtain rfl : x_15 = iZ (6 * x) := ex_15.trans (iZ_mul 6 x)
      refine lv_iload_n hx hb dX12_worth_38 rfl (lv_at hl 3 rfl) ?_
      refine lv_iadd hx hb dX12_worth_39 ?_
      refine lv_topi (fun x_16 ex_16 => ?_)
      obtain rfl : x_16 = iZ ((6 * x) + y) := ex_16.trans (iZ_add (6 * x) y)
      refine va_iald hx hb hK hP 2 1 rfl rfl (zin (e := ((6 * x) + y)) (n := 120) ⟨by omega, by omega⟩ (bl rfl)) dX12_worth_40 ?_
      refine lv_topi (fun x_17 ex_17 => ?_)
      obtain rfl : x_17 = iZ (gz Hf ((6 * x) + y)) := ex_17.trans (gz_eq ⟨by omega, by omega⟩)
      have h_18 := rgH ((6 * x) + y) (by omega) (by omega)
      refine lv_ineg hx hb dX12_worth_41 ?_
      refine lv_topi (fun x_19 ex_19 => ?_)
      obtain rfl : x_19 = iZ (-(gz Hf ((6 * x) + y))) := ex_19.trans (iZ_neg (gz Hf ((6 * x) + y)))
      refine lv_goto (tgt := 84) hx hb dX12_worth_42 rfl ?_
      exact EPi hx hb hr hlocks (by omega) dX12_worth_84
  ·
    have c_3 := (zeq (x := iZ (gz Af 2)) (y := iZ 0) rfl rfl (gz_rg Af 2) wn_0).mp c_3
    refine lv_aload_n hx hb dX12_worth_11 rfl (lv_at hl 1 rfl) ?_
    refine va_get (D := D) (ci := 12) (v := .ref Mh) (C := RX12) (T := TX12) (N := 36) hx hb hts iX12 hown hK hP 0 rfl rfl 27 (bl rfl) (hts _ qf_X12_56) (fun _ h => h) f27 dX12_worth_12 ?_
    refine lv_bipush (v := iZ 6) hx hb dX12_worth_15 bip_6 ?_
    refine lv_iload_n hx hb dX12_worth_17 rfl (lv_at hl 2 rfl) ?_
    refine lv_imul hx hb dX12_worth_18 ?_
    refine lv_topi (fun x_20 ex_20 => ?_)
    obtain rfl : x_20 = iZ (6 * x) := ex_20.trans (iZ_mul 6 x)
    refine lv_iload_n hx hb dX12_worth_19 rfl (lv_at hl 3 rfl) ?_
    refine lv_iadd hx hb dX12_worth_20 ?_
    refine lv_topi (fun x_21 ex_21 => ?_)
    obtain rfl : x_21 = iZ ((6 * x) + y) := ex_21.trans (iZ_add (6 * x) y)
    refine va_iald hx hb hK hP 2 1 rfl rfl (zin (e := ((6 * x) + y)) (n := 120) ⟨by omega, by omega⟩ (bl rfl)) dX12_worth_21 ?_
    refine lv_topi (fun x_22 ex_22 => ?_)
    obtain rfl : x_22 = iZ (gz Hf ((6 * x) + y)) := ex_22.trans (gz_eq ⟨by omega, by omega⟩)
    have h_23 := rgH ((6 * x) + y) (by omega) (by omega)
    refine lv_goto (tgt := 84) hx hb dX12_worth_22 rfl ?_
    exact EPi hx hb hr hlocks (by omega) dX12_worth_84
set_option maxHeartbeats 4000000 in
set_option maxRecDepth 100000 in
theorem r_ruling (l : Launch) (D : va_G) (k : Nat → ClassId) (fs : List Value) (hm : Nat) (Ma : Nat) (Mh : Nat) (Af : Nat → Int32) (Hf : Nat → Int32) (y : Int) (w : Int) (f0 : fs[0]? = some (.ref Ma)) (f27 : fs[27]? = some (.ref Mh)) (hM : M0 Af) (h9y : 0 ≤ y ∧ y < gz Af 0) (h9w : 0 ≤ w ∧ w ≤ 1000) (rgH : rgI Hf 0 1000000 120) (hkr : KNR Af Hf (gz Af 4)) : RP l yX12_ruling cX12_ruling 5 (some .int) 2 D k [.ref hm, .int (iZ y), .int (iZ w)] [(hm, .inr (12, fs)), (Ma, .inl (k 1, 5340, .inl Af)), (Mh, .inl (k 1, 120, .inl Hf))] (fun z => z = ruF (eR Af) (rL Af) y w ∧ (-1 ≤ z ∧ (z < gz Af 4 ∨ z = -1))) := by
  refine MRP (by decide) (Nat.le_of_ble_eq_true rfl) (fun p e s m below meth c ls hx hb hml hr hlocks hts hown hKK hP hl => ?_)
  have hK := hKK.1
  have hl : lv_has ls 5 [(0, .ref hm), (1, .int (iZ y)), (2, .int (iZ w))] := hl
  obtain ⟨m0, m1, m3, m4, m5, mF, mO, mS⟩ := id hM
  refine lv_iconst (v := iZ (-1)) hx hb dX12_ruling_0 rfl ?_
  refine lv_istore_n (lv' := [(3, .int (iZ (-1))), (0, .ref hm), (1, .int (iZ y)), (2, .int (iZ w))]) hx hb dX12_ruling_1 rfl hl (bl rfl) rfl (fun ls hl => ?_)
  refine lv_iconst (v := iZ 0) hx hb dX12_ruling_2 rfl ?_
  refine lv_istore (lv' := [(4, .int (iZ 0)), (3, .int (iZ (-1))), (0, .ref hm), (1, .int (iZ y)), (2, .int (iZ w))]) hx hb dX12_ruling_3 hl (bl rfl) rfl (fun ls hl => ?_)
  have HL5 : ∀ (fu : Nat) (v3_5 : Int) (v4_5 : Int) (ls : Array Slot), ((gz Af 4 - 1) + 2 - v4_5) < (fu : Int) → ((0 ≤ v4_5 ∧ v4_5 ≤ (gz Af 4 - 1) + 1)) → (-1 ≤ v3_5 ∧ (v3_5 < gz Af 4 ∨ v3_5 = -1)) → (v3_5 = rlF (eR Af) (rL Af) y w (Int.toNat (v4_5))) → lv_has ls 5 [(4, .int (iZ v4_5)), (3, .int (iZ v3_5)), (0, .ref hm), (1, .int (iZ y)), (2, .int (iZ w))] → W p l e (rj 2 0 0) s m [.ref hm, .int (iZ y), .int (iZ w)].toArray below meth c s.heap [] 0 0 (MQ below (QcP (fun z => z = ruF (eR Af) (rL Af) y w ∧ (-1 ≤ z ∧ (z < gz Af 4 ∨ z = -1)))) [.ref hm, .int (iZ y), .int (iZ w)].toArray s 0 0 (fun _ => False)) (F0 m 5 ls []) := by
    intro fu
    induction fu with
    | zero => intro v3_5 v4_5 ls hμ5 hi5 hf0_5 hrl hl; exact absurd hμ5 (by omega)
    | succ fu ih5 =>
      intro v3_5 v4_5 ls hμ5 hi5 hf0_5 hrl hl
      refine lv_iload hx hb dX12_ruling_5 (lv_at hl 0 rfl) ?_
      refine lv_aload_n hx hb dX12_ruling_7 rfl (lv_at hl 2 rfl) ?_
      refine va_get (D := D) (ci := 12) (v := .ref Ma) (C := RX12) (T := TX12) (N := 36) hx hb hts iX12 hown hK hP 0 rfl rfl 0 (bl rfl) (hts _ qf_X12_7) (fun _ h => h) f0 dX12_ruling_8 ?_
      refine lv_iconst (v := iZ 4) hx hb dX12_ruling_11 rfl ?_
      refine va_iald hx hb hK hP 1 1 rfl rfl (zin (e := 4) (n := 5340) ⟨by omega, by omega⟩ (bl rfl)) dX12_ruling_12 ?_
      refine lv_topi (fun x_1 ex_1 => ?_)
      obtain rfl : x_1 = iZ (gz Af 4) := ex_1.trans (gz_eq ⟨by omega, by omega⟩)
      have h_2 := gz_rg Af 4
      refine lv_icmp_ge (tgt := 62) hx hb dX12_ruling_13 rfl (fun c_3 => ?_) (fun c_3 => ?_)
      ·
        have c_3 := (zle (x := iZ (gz Af 4)) (y := iZ v4_5) rfl rfl (gz_rg Af 4) ⟨by omega, by omega⟩).mp c_3
        refine lv_iload_n hx hb dX12_ruling_62 rfl (lv_at hl 1 rfl) ?_
        exact EPi hx hb hr hlocks ⟨by have e9 : v4_5 = gz Af 4 := (by omega); rw [e9] at hrl; exact hrl, by omega, by omega⟩ dX12_ruling_63
      ·
        have c_3 := mt (zle (x := iZ (gz Af 4)) (y := iZ v4_5) rfl rfl (gz_rg Af 4) ⟨by omega, by omega⟩).mpr c_3
        refine lv_aload_n hx hb dX12_ruling_16 rfl (lv_at hl 2 rfl) ?_
        refine va_get (D := D) (ci := 12) (v := .ref Mh) (C := RX12) (T := TX12) (N := 36) hx hb hts iX12 hown hK hP 0 rfl rfl 27 (bl rfl) (hts _ qf_X12_56) (fun _ h => h) f27 dX12_ruling_17 ?_
        refine lv_bipush (v := iZ 6) hx hb dX12_ruling_20 bip_6 ?_
        refine lv_iload hx hb dX12_ruling_22 (lv_at hl 0 rfl) ?_
        refine lv_imul hx hb dX12_ruling_24 ?_
        refine lv_topi (fun x_4 ex_4 => ?_)
        obtain rfl : x_4 = iZ (6 * v4_5) := ex_4.trans (iZ_mul 6 v4_5)
        refine lv_iload_n hx hb dX12_ruling_25 rfl (lv_at hl 3 rfl) ?_
        refine lv_iadd hx hb dX12_ruling_26 ?_
        refine lv_topi (fun x_5 ex_5 => ?_)
        obtain rfl : x_5 = iZ ((6 * v4_5) + y) := ex_5.trans (iZ_add (6 * v4_5) y)
        refine va_iald hx hb hK hP 2 1 rfl rfl (zin (e := ((6 * v4_5) + y)) (n := 120) ⟨by omega, by omega⟩ (bl rfl)) dX12_ruling_27 ?_
        refine lv_topi (fun x_6 ex_6 => ?_)
        obtain rfl : x_6 = iZ (gz Hf ((6 * v4_5) + y)) := ex_6.trans (gz_eq ⟨by omega, by omega⟩)
        have h_7 := rgH ((6 * v4_5) + y) (by omega) (by omega)
        refine lv_iload_n hx hb dX12_ruling_28 rfl (lv_at hl 4 rfl) ?_
        refine lv_icmp_gt (tgt := 56) hx hb dX12_ruling_29 rfl (fun c_8 => ?_) (fun c_8 => ?_)
        ·
          have c_8 := (zlt (x := iZ w) (y := iZ (gz Hf ((6 * v4_5) + y))) rfl rfl ⟨by omega, by omega⟩ (gz_rg Hf ((6 * v4_5) + y))).mp c_8
          refine lv_iinc (v := iZ (v4_5 + 1)) (lv' := [(4, .int (iZ (v4_5 + 1))), (3, .int (iZ v3_5)), (0, .ref hm), (1, .int (iZ y)), (2, .int (iZ w))]) hx hb dX12_ruling_56 hl (k := 0) rfl (iZ_add v4_5 1) (by decide) rfl (fun ls hl => ?_)
          refine lv_goto (tgt := 5) hx hb dX12_ruling_59 rfl ?_
          exact ih5  v3_5 (v4_5 + 1) _ (by omega) (show (0 ≤ (v4_5 + 1) ∧ (v4_5 + 1) ≤ (gz Af 4 - 1) + 1) from ⟨by omega, by omega⟩) (show -1 ≤ v3_5 ∧ (v3_5 < gz Af 4 ∨ v3_5 = -1) from (by omega)) (show v3_5 = rlF (eR Af) (rL Af) y w (Int.toNat ((v4_5 + 1))) from (by have s9 := rlF_s (e := eR Af) (L := rL Af) (r := y) (w := w) (i := v4_5) (by omega); rw [← hrl] at s9; have k9 := hkr v4_5 y (by omega) (by omega) h9y.1 h9y.2; omega)) (lv_sub hl [0, 1, 2, 3, 4] rfl)
        ·
          have c_8 := mt (zlt (x := iZ w) (y := iZ (gz Hf ((6 * v4_5) + y))) rfl rfl ⟨by omega, by omega⟩ (gz_rg Hf ((6 * v4_5) + y))).mpr c_8
          refine lv_iload_n hx hb dX12_ruling_32 rfl (lv_at hl 1 rfl) ?_
          refine lv_iconst (v := iZ (-1)) hx hb dX12_ruling_33 rfl ?_
          refine lv_icmp_eq (tgt := 53) hx hb dX12_ruling_34 rfl (fun c_9 => ?_) (fun c_9 => ?_)
          ·
            have c_9 := (zeq (x := iZ v3_5) (y := iZ (-1)) rfl rfl ⟨by omega, by omega⟩ wn_m1).mp c_9
            refine lv_iload hx hb dX12_ruling_53 (lv_at hl 0 rfl) ?_
            refine lv_istore_n (lv' := [(3, .int (iZ v4_5)), (4, .int (iZ v4_5)), (0, .ref hm), (1, .int (iZ y)), (2, .int (iZ w))]) hx hb dX12_ruling_55 rfl hl (bl rfl) rfl (fun ls hl => ?_)
            refine lv_iinc (v := iZ (v4_5 + 1)) (lv' := [(4, .int (iZ (v4_5 + 1))), (3, .int (iZ v4_5)), (0, .ref hm), (1, .int (iZ y)), (2, .int (iZ w))]) hx hb dX12_ruling_56 hl (k := 1) rfl (iZ_add v4_5 1) (by decide) rfl (fun ls hl => ?_)
            refine lv_goto (tgt := 5) hx hb dX12_ruling_59 rfl ?_
            exact ih5  v4_5 (v4_5 + 1) _ (by omega) (show (0 ≤ (v4_5 + 1) ∧ (v4_5 + 1) ≤ (gz Af 4 - 1) + 1) from ⟨by omega, by omega⟩) (show -1 ≤ v4_5 ∧ (v4_5 < gz Af 4 ∨ v4_5 = -1) from (by omega)) (show v4_5 = rlF (eR Af) (rL Af) y w (Int.toNat ((v4_5 + 1))) from (by have s9 := rlF_s (e := eR Af) (L := rL Af) (r := y) (w := w) (i := v4_5) (by omega); rw [← hrl] at s9; have k9 := hkr v4_5 y (by omega) (by omega) h9y.1 h9y.2; omega)) (lv_sub hl [0, 1, 2, 3, 4] rfl)
          ·
            have c_9 := mt (zeq (x := iZ v3_5) (y := iZ (-1)) rfl rfl ⟨by omega, by omega⟩ wn_m1).mpr c_9
            refine lv_aload_n hx hb dX12_ruling_37 rfl (lv_at hl 2 rfl) ?_
            refine lv_iload hx hb dX12_ruling_38 (lv_at hl 0 rfl) ?_
            refine lv_iload_n hx hb dX12_ruling_40 rfl (lv_at hl 3 rfl) ?_
            refine CPV (As := [.int (iZ v4_5), .int (iZ y)]) (rest := []) hx hb hml hown hts hKK hP (r_worth l D k fs hm Ma Mh Af Hf v4_5 y f0 f27 hM ⟨by omega, by omega⟩ ⟨by omega, by omega⟩ rgH hkr) ci_X12_worth qm_X12_327 ⟨Nat.le_of_ble_eq_true rfl, Nat.le_of_ble_eq_true rfl⟩ ⟨Nat.le_of_ble_eq_true rfl, Nat.le_of_ble_eq_true rfl⟩ 0 rfl rfl rfl hl.1 rfl (Nat.le_of_ble_eq_true rfl) dX12_ruling_41 (fun z_10 hz_10 => ?_)
            refine lv_aload_n hx hb dX12_ruling_44 rfl (lv_at hl 2 rfl) ?_
            refine lv_iload_n hx hb dX12_ruling_45 rfl (lv_at hl 1 rfl) ?_
            refine lv_iload_n hx hb dX12_ruling_46 rfl (lv_at hl 3 rfl) ?_
            refine CPV (As := [.int (iZ v3_5), .int (iZ y)]) (rest := [.int (iZ z_10)]) hx hb hml hown hts hKK hP (r_worth l D k fs hm Ma Mh Af Hf v3_5 y f0 f27 hM ⟨by omega, by omega⟩ ⟨by omega, by omega⟩ rgH hkr) ci_X12_worth qm_X12_327 ⟨Nat.le_of_ble_eq_true rfl, Nat.le_of_ble_eq_true rfl⟩ ⟨Nat.le_of_ble_eq_true rfl, Nat.le_of_ble_eq_true rfl⟩ 0 rfl rfl rfl hl.1 rfl (Nat.le_of_ble_eq_true rfl) dX12_ruling_47 (fun z_11 hz_11 => ?_)
            refine lv_icmp_ge (tgt := 56) hx hb dX12_ruling_50 rfl (fun c_12 => ?_) (fun c_12 => ?_)
            ·
              have c_12 := (zle (x := iZ z_11) (y := iZ z_10) rfl rfl ⟨by omega, by omega⟩ ⟨by omega, by omega⟩).mp c_12
              refine lv_iinc (v := iZ (v4_5 + 1)) (lv' := [(4, .int (iZ (v4_5 + 1))), (3, .int (iZ v3_5)), (0, .ref hm), (1, .int (iZ y)), (2, .int (iZ w))]) hx hb dX12_ruling_56 hl (k := 0) rfl (iZ_add v4_5 1) (by decide) rfl (fun ls hl => ?_)
              refine lv_goto (tgt := 5) hx hb dX12_ruling_59 rfl ?_
              exact ih5  v3_5 (v4_5 + 1) _ (by omega) (show (0 ≤ (v4_5 + 1) ∧ (v4_5 + 1) ≤ (gz Af 4 - 1) + 1) from ⟨by omega, by omega⟩) (show -1 ≤ v3_5 ∧ (v3_5 < gz Af 4 ∨ v3_5 = -1) from (by omega)) (show v3_5 = rlF (eR Af) (rL Af) y w (Int.toNat ((v4_5 + 1))) from (by have s9 := rlF_s (e := eR Af) (L := rL Af) (r := y) (w := w) (i := v4_5) (by omega); rw [← hrl] at s9; have k9 := hkr v4_5 y (by omega) (by omega) h9y.1 h9y.2; have w90 := hz_10.1; have w91 := hz_11.1; omega)) (lv_sub hl [0, 1, 2, 3, 4] rfl)
            ·
              have c_12 := mt (zle (x := iZ z_11) (y := iZ z_10) rfl rfl ⟨by omega, by omega⟩ ⟨by omega, by omega⟩).mpr c_12
              refine lv_iload hx hb dX12_ruling_53 (lv_at hl 0 rfl) ?_
              refine lv_istore_n (lv' := [(3, .int (iZ v4_5)), (4, .int (iZ v4_5)), (0, .ref hm), (1, .int (iZ y)), (2, .int (iZ w))]) hx hb dX12_ruling_55 rfl hl (bl rfl) rfl (fun ls hl => ?_)
              refine lv_iinc (v := iZ (v4_5 + 1)) (lv' := [(4, .int (iZ (v4_5 + 1))), (3, .int (iZ v4_5)), (0, .ref hm), (1, .int (iZ y)), (2, .int (iZ w))]) hx hb dX12_ruling_56 hl (k := 1) rfl (iZ_add v4_5 1) (by decide) rfl (fun ls hl => ?_)
              refine lv_goto (tgt := 5) hx hb dX12_ruling_59 rfl ?_
              exact ih5  v4_5 (v4_5 + 1) _ (by omega) (show (0 ≤ (v4_5 + 1) ∧ (v4_5 + 1) ≤ (gz Af 4 - 1) + 1) from ⟨by omega, by omega⟩) (show -1 ≤ v4_5 ∧ (v4_5 < gz Af 4 ∨ v4_5 = -1) from (by omega)) (show v4_5 = rlF (eR Af) (rL Af) y w (Int.toNat ((v4_5 + 1))) from (by have s9 := rlF_s (e := eR Af) (L := rL Af) (r := y) (w := w) (i := v4_5) (by omega); rw [← hrl] at s9; have k9 := hkr v4_5 y (by omega) (by omega) h9y.1 h9y.2; have w90 := hz_10.1; have w91 := hz_11.1; omega)) (lv_sub hl [0, 1, 2, 3, 4] rfl)
  exact HL5 24 (-1) 0 _ (by omega) (show (0 ≤ 0 ∧ 0 ≤ (gz Af 4 - 1) + 1) from ⟨by omega, by omega⟩) (show -1 ≤ (-1) ∧ ((-1) < gz Af 4 ∨ (-1) = -1) from (by omega)) (show (-1) = rlF (eR Af) (rL Af) y w (Int.toNat (0)) from rfl) (lv_sub hl [0, 1, 2, 3, 4] rfl)
end
