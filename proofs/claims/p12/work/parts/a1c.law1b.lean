section
/-- the class's rows hold YEARS -/
def yCM (w a b c p : Nat → Int32) (yr : Int) (P : PR_) : Prop := yr = P.1 ∧ yRw w P.2.1 P.1 ∧ yRw a P.2.2.1 P.1 ∧ yRw b P.2.2.2.1 P.1 ∧ yRw c P.2.2.2.2.1 P.1 ∧ yRw p P.2.2.2.2.2 P.1
theorem yCM.of {yr ys de : Int} {w a b c p o w' a' b' c' p' : Nat → Int32} {W A B C P O : Int → Int} (h : YSY yr de w a b c p o W A B C P O) (h1 : CPY w' w yr) (h2 : CPY a' a yr) (h3 : CPY b' b yr) (h4 : CPY c' c yr) (h5 : CPY p' p yr) : yCM w' a' b' c' p' yr (pOf (yr, ys, 0, W, A, B, C, P, O)) := by
  obtain ⟨jW, jA, jB, jC, jP, -⟩ := h
  exact ⟨rfl, yRw_c jW h1, yRw_c jA h2, yRw_c jB h3, yRw_c jC h4, yRw_c jP h5⟩
theorem yCM.cpy {yr yr' : Int} {P : PR_} {w a b c p w' a' b' c' p' : Nat → Int32} (h : yCM w a b c p yr P) (e : yr' = yr) (h1 : CPY w' w yr) (h2 : CPY a' a yr) (h3 : CPY b' b yr) (h4 : CPY c' c yr) (h5 : CPY p' p yr) : yCM w' a' b' c' p' yr' P := by
  obtain ⟨h0, jW, jA, jB, jC, jP⟩ := h
  subst h0
  exact ⟨e, yRw_c jW h1, yRw_c jA h2, yRw_c jB h3, yRw_c jC h4, yRw_c jP h5⟩
end

section
set_option maxHeartbeats 4000000 in
set_option maxRecDepth 100000 in
theorem x_years (l : Launch) (D : va_G) (k : Nat → ClassId) (hx1 : Nat) (ta : Nat) (hw1 : Nat) (hw12 : Nat) (ka : Nat) (hr1 : Nat) (hq : Nat) (hv : Nat) (h : Nat) (hn1 : Nat) (hL : Nat) (li : Nat) (ev : Int) (mk : Int) (ou : Int) (up : Int64) (lo : Int64) (tx : Nat) (kw : Nat) (hs : Nat) (hN : Nat) (hf : Nat) (hg : Nat) (hc : Nat) (oo : Nat) (hs2 : Nat) (hc2 : Nat) (sv : Value) (sv2 : Value) (de : Int) (n : Int) (ni : Int) (lw : Int) (we : Int) (nf : Nat → Int64) (of0 : Nat → Int32) (tp : Int) (ln : Int) (pl : Int) (en : Int) (ki : Int) (va : Int) (ke : Int) (fk : Int) (fp : Int) (nm : Int64) (bf : Nat → Int32) (kwf : Nat → Int64) (hy : Nat) (yw : Nat) (y1 : Nat) (y2 : Nat) (y3 : Nat) (yp : Nat) (th : Int) (ys : Int) (yr : Int) (ywf : Nat → Int32) (y1f : Nat → Int32) (y2f : Nat → Int32) (y3f : Nat → Int32) (ypf : Nat → Int32) (hy2 : Nat) (yw2 : Nat) (y12 : Nat) (y22 : Nat) (y32 : Nat) (yp2 : Nat) (th2 : Int) (ys2 : Int) (yr2 : Int) (ywf2 : Nat → Int32) (y1f2 : Nat → Int32) (y2f2 : Nat → Int32) (y3f2 : Nat → Int32) (ypf2 : Nat → Int32) (x1 : Int) (N : Int → Int) (hI1 : (0 ≤ tp ∧ tp ≤ 900) ∧ (0 ≤ ln ∧ ln ≤ 900) ∧ (0 ≤ pl ∧ pl ≤ en) ∧ (en ≤ ln) ∧ (0 ≤ ki ∧ ki ≤ 4) ∧ (-2147483648 ≤ va ∧ va < 2147483648) ∧ (-1 ≤ ke ∧ ke ≤ 24)) (hn : 0 ≤ n ∧ n ≤ 6) (hth : th = 0 ∨ th = 1) (hys : 0 ≤ ys ∧ ys ≤ 30) (hyr : 0 ≤ yr ∧ yr ≤ 60) (hYI : YI ywf y1f y3f ypf n yr) (h9x1 : -2147483648 ≤ x1 ∧ x1 < 2147483648) (hbf : rgI bf (-128) 127 900) (hkw : ∀ j : Nat, j < 25 → kwf j = lZ (kwC j)) (hns : xNs nf N n) : WD (σ := ((Int × Int × Int × Int × Int × Int × Int × Int × Int × Int × Int × Int × Int × Int × Int × Int × Int × Int) × (Int64 × Int64) × ((Nat → Int32) × (Nat → Int32) × (Nat → Int32) × (Nat → Int32) × (Nat → Int32) × (Nat → Int32) × (Nat → Int32) × (Nat → Int32) × (Nat → Int32) × (Nat → Int32) × (Nat → Int32)) × (Unit) × (Value × Value))) l yX11_years cX11_years 3 (some .int) 7 0 0 D k [.ref hx1, .int (iZ x1)] [(hx1, .inr (11, [.ref ta, .ref hw1, .ref hw12, .ref ka, .ref hr1, .ref hq, .ref hv, .ref h, .ref hn1, .ref hL, .ref li, .int (iZ ev), .int (iZ mk), .int (iZ ou), .long up, .long lo])), (hv, .inr (10, [.ref hr1, .ref oo, .int (iZ de), sv, sv2])), (oo, .inl (k 1, 3, .inl of0)), (hr1, .inr (4, [.ref tx, .ref kw, .int (iZ tp), .int (iZ ln), .int (iZ pl), .int (iZ en), .int (iZ ki), .int (iZ va), .int (iZ ke), .long nm, .int (iZ fk), .int (iZ fp)])), (tx, .inl (k 0, 900, .inl bf)), (kw, .inl (k 2, 25, .inr (.inl kwf))), (hw12, .inr (8, [.ref hs2, .ref hc2, .ref hy2])), (hy2, .inr (9, [.ref yw2, .ref y12, .ref y22, .ref y32, .ref yp2, .int (iZ th2), .int (iZ ys2), .int (iZ yr2)])), (yw2, .inl (k 1, 60, .inl ywf2)), (y12, .inl (k 1, 60, .inl y1f2)), (y22, .inl (k 1, 60, .inl y2f2)), (y32, .inl (k 1, 60, .inl y3f2)), (yp2, .inl (k 1, 60, .inl ypf2)), (hw1, .inr (8, [.ref hs, .ref hc, .ref hy])), (hy, .inr (9, [.ref yw, .ref y1, .ref y2, .ref y3, .ref yp, .int (iZ th), .int (iZ ys), .int (iZ yr)])), (yw, .inl (k 1, 60, .inl ywf)), (y1, .inl (k 1, 60, .inl y1f)), (y2, .inl (k 1, 60, .inl y2f)), (y3, .inl (k 1, 60, .inl y3f)), (yp, .inl (k 1, 60, .inl ypf)), (hs, .inr (5, [.ref hN, .ref hf, .ref hg, .int (iZ n), .int (iZ ni), .int (iZ lw), .int (iZ we)])), (hN, .inl (k 2, 6, .inr (.inl nf)))] (fun u => some (.int (iZ u.1.1))) (fun u => ((0 ≤ u.1.2.1 ∧ u.1.2.1 ≤ 900) ∧ (0 ≤ u.1.2.2.1 ∧ u.1.2.2.1 ≤ 900) ∧ (0 ≤ u.1.2.2.2.1 ∧ u.1.2.2.2.1 ≤ u.1.2.2.2.2.1) ∧ (u.1.2.2.2.2.1 ≤ u.1.2.2.1) ∧ (0 ≤ u.1.2.2.2.2.2.1 ∧ u.1.2.2.2.2.2.1 ≤ 4) ∧ (-2147483648 ≤ u.1.2.2.2.2.2.2.1 ∧ u.1.2.2.2.2.2.2.1 < 2147483648) ∧ (-1 ≤ u.1.2.2.2.2.2.2.2.1 ∧ u.1.2.2.2.2.2.2.2.1 ≤ 24)) ∧ (((0 ≤ x1 ∧ x1 ≤ tp ∧ x1 ≤ 300) ∧ (u.1.2.1 : Int) = 0) ∨ (¬ (0 ≤ x1 ∧ x1 ≤ tp ∧ x1 ≤ 300) ∧ u.1.2.1 = tp)) ∧ ((u.1.2.2.2.2.2.2.2.2.2.2.2.2.2.2.2.1 = 0 ∨ u.1.2.2.2.2.2.2.2.2.2.2.2.2.2.2.2.1 = 1) ∧ (0 ≤ u.1.2.2.2.2.2.2.2.2.2.2.2.2.2.2.2.2.1 ∧ u.1.2.2.2.2.2.2.2.2.2.2.2.2.2.2.2.2.1 ≤ 30) ∧ (0 ≤ u.1.2.2.2.2.2.2.2.2.2.2.2.2.2.2.2.2.2 ∧ u.1.2.2.2.2.2.2.2.2.2.2.2.2.2.2.2.2.2 ≤ 60)) ∧ (YI u.2.2.1.2.2.2.2.2.2.1 u.2.2.1.2.2.2.2.2.2.2.1 u.2.2.1.2.2.2.2.2.2.2.2.2.1 u.2.2.1.2.2.2.2.2.2.2.2.2.2 n u.1.2.2.2.2.2.2.2.2.2.2.2.2.2.2.2.2.2) ∧ (((0 ≤ x1 ∧ x1 ≤ tp ∧ x1 ≤ 300) ∧ ∃ s9 : YS_, xYrs (tX bf x1) N n = .inr s9 ∧ (YV_ n s9 ∧ s9.2.2.1 = 0) ∧ yCM u.2.2.1.2.2.2.2.2.2.1 u.2.2.1.2.2.2.2.2.2.2.1 u.2.2.1.2.2.2.2.2.2.2.2.1 u.2.2.1.2.2.2.2.2.2.2.2.2.1 u.2.2.1.2.2.2.2.2.2.2.2.2.2 u.1.2.2.2.2.2.2.2.2.2.2.2.2.2.2.2.2.2 (pOf s9) ∧ u.1.2.2.2.2.2.2.2.2.2.2.2.2.2.2.2.1 = 1 ∧ u.1.1 = s9.2.1 ∧ (u.1.2.2.2.2.2.2.2.2.1 : Int) = 0 ∧ u.1.2.2.2.2.2.2.2.2.2.1 = -1) ∨ ((0 ≤ x1 ∧ x1 ≤ tp ∧ x1 ≤ 300) ∧ ∃ e9 : Int × Int, xYrs (tX bf x1) N n = .inl e9 ∧ (u.1.1 : Int) = -1 ∧ u.1.2.2.2.2.2.2.2.2.1 = e9.1 ∧ u.1.2.2.2.2.2.2.2.2.2.1 = e9.2 ∧ u.1.2.2.2.2.2.2.2.2.2.2.2.2.2.2.2.1 = th ∧ u.1.2.2.2.2.2.2.2.2.2.2.2.2.2.2.2.2.1 = ys ∧ u.1.2.2.2.2.2.2.2.2.2.2.2.2.2.2.2.2.2 = yr ∧ u.2.2.1.2.2.2.2.2.2.1 = ywf ∧ u.2.2.1.2.2.2.2.2.2.2.1 = y1f ∧ u.2.2.1.2.2.2.2.2.2.2.2.1 = y2f ∧ u.2.2.1.2.2.2.2.2.2.2.2.2.1 = y3f ∧ u.2.2.1.2.2.2.2.2.2.2.2.2.2 = ypf) ∨ (¬ (0 ≤ x1 ∧ x1 ≤ tp ∧ x1 ≤ 300) ∧ (u.1.1 : Int) = -1 ∧ u.1.2.2.2.2.2.2.2.2.1 = fk ∧ u.1.2.2.2.2.2.2.2.2.2.1 = fp ∧ u.1.2.2.2.2.2.2.2.2.2.2.2.2.2.2.2.1 = th ∧ u.1.2.2.2.2.2.2.2.2.2.2.2.2.2.2.2.2.1 = ys ∧ u.1.2.2.2.2.2.2.2.2.2.2.2.2.2.2.2.2.2 = yr ∧ u.2.2.1.2.2.2.2.2.2.1 = ywf ∧ u.2.2.1.2.2.2.2.2.2.2.1 = y1f ∧ u.2.2.1.2.2.2.2.2.2.2.2.1 = y2f ∧ u.2.2.1.2.2.2.2.2.2.2.2.2.1 = y3f ∧ u.2.2.1.2.2.2.2.2.2.2.2.2.2 = ypf))) (fun u => [(hx1, .inr (11, [.ref ta, .ref hw1, .ref hw12, .ref ka, .ref hr1, .ref hq, .ref hv, .ref h, .ref hn1, .ref hL, .ref li, .int (iZ ev), .int (iZ mk), .int (iZ u.1.2.2.2.2.2.2.2.2.2.2.1), .long up, .long lo])), (hv, .inr (10, [.ref hr1, .ref oo, .int (iZ u.1.2.2.2.2.2.2.2.2.2.2.2.1), u.2.2.2.2.1, u.2.2.2.2.2])), (oo, .inl (k 1, 3, .inl u.2.2.1.1)), (hr1, .inr (4, [.ref tx, .ref kw, .int (iZ u.1.2.1), .int (iZ u.1.2.2.1), .int (iZ u.1.2.2.2.1), .int (iZ u.1.2.2.2.2.1), .int (iZ u.1.2.2.2.2.2.1), .int (iZ u.1.2.2.2.2.2.2.1), .int (iZ u.1.2.2.2.2.2.2.2.1), .long u.2.1.2, .int (iZ u.1.2.2.2.2.2.2.2.2.1), .int (iZ u.1.2.2.2.2.2.2.2.2.2.1)])), (tx, .inl (k 0, 900, .inl bf)), (kw, .inl (k 2, 25, .inr (.inl kwf))), (hw12, .inr (8, [.ref hs2, .ref hc2, .ref hy2])), (hy2, .inr (9, [.ref yw2, .ref y12, .ref y22, .ref y32, .ref yp2, .int (iZ u.1.2.2.2.2.2.2.2.2.2.2.2.2.1), .int (iZ u.1.2.2.2.2.2.2.2.2.2.2.2.2.2.1), .int (iZ u.1.2.2.2.2.2.2.2.2.2.2.2.2.2.2.1)])), (yw2, .inl (k 1, 60, .inl u.2.2.1.2.1)), (y12, .inl (k 1, 60, .inl u.2.2.1.2.2.1)), (y22, .inl (k 1, 60, .inl u.2.2.1.2.2.2.1)), (y32, .inl (k 1, 60, .inl u.2.2.1.2.2.2.2.1)), (yp2, .inl (k 1, 60, .inl u.2.2.1.2.2.2.2.2.1)), (hw1, .inr (8, [.ref hs, .ref hc, .ref hy])), (hy, .inr (9, [.ref yw, .ref y1, .ref y2, .ref y3, .ref yp, .int (iZ u.1.2.2.2.2.2.2.2.2.2.2.2.2.2.2.2.1), .int (iZ u.1.2.2.2.2.2.2.2.2.2.2.2.2.2.2.2.2.1), .int (iZ u.1.2.2.2.2.2.2.2.2.2.2.2.2.2.2.2.2.2)])), (yw, .inl (k 1, 60, .inl u.2.2.1.2.2.2.2.2.2.1)), (y1, .inl (k 1, 60, .inl u.2.2.1.2.2.2.2.2.2.2.1)), (y2, .inl (k 1, 60, .inl u.2.2.1.2.2.2.2.2.2.2.2.1)), (y3, .inl (k 1, 60, .inl u.2.2.1.2.2.2.2.2.2.2.2.2.1)), (yp, .inl (k 1, 60, .inl u.2.2.1.2.2.2.2.2.2.2.2.2.2)), (hs, .inr (5, [.ref hN, .ref hf, .ref hg, .int (iZ n), .int (iZ ni), .int (iZ lw), .int (iZ we)])), (hN, .inl (k 2, 6, .inr (.inl nf)))]) := by
  refine MW (by decide) (Nat.le_of_ble_eq_true rfl) (fun p e s m below meth c ls A hx hb hml hr hlocks hin hts hown hKK hP hD hS hA hl => ?_)
  have hK := hKK.1
  have hl : lv_has ls 3 [(0, .ref hx1), (1, .int (iZ x1))] := hl
  refine lv_iload_n hx hb dX11_years_0 rfl (lv_at hl 1 rfl) ?_
  refine lv_aload_n hx hb dX11_years_1 rfl (lv_at hl 0 rfl) ?_
  refine va_get (D := D) (ci := 11) (v := .ref hr1) (C := RX11) (T := TX11) (N := 16) hx hb hts iX11 hown hK hP 0 rfl rfl 4 (bl rfl) (hts _ qf_X11_32) (fun _ h => h) rfl dX11_years_2 ?_
  refine va_get (D := D) (ci := 4) (v := .int (iZ tp)) (C := RX4) (T := TX4) (N := 12) hx hb hts iX4 hown hK hP 3 rfl rfl 2 (bl rfl) (hts _ qf_X11_149) (fun _ h => h) rfl dX11_years_5 ?_
  refine CPS (As := [.int (iZ x1), .int (iZ tp)]) (rest := []) hx hb hml hown hts hKK (hP.sub (ws' := []) [] rfl) (k_isWithin l D k x1 tp ⟨by omega, by omega⟩ ⟨by omega, by omega⟩) ci_X11_isWithin qm_X11_103 ⟨Nat.le_of_ble_eq_true rfl, Nat.le_of_ble_eq_true rfl⟩ ⟨Nat.le_of_ble_eq_true rfl, Nat.le_of_ble_eq_true rfl⟩ rfl hl.1 rfl (Nat.le_of_ble_eq_true rfl) dX11_years_8 (fun z_1 hz_1 => ?_)
  rcases hz_1 with ⟨qz_1, hz_1⟩ | ⟨qz_1, hz_1⟩
  ·
    subst qz_1
    refine lv_if_eq (tgt := 21) hx hb dX11_years_11 rfl (fun c => absurd c (by decide)) (fun _ => ?_)
    refine lv_iload_n hx hb dX11_years_14 rfl (lv_at hl 1 rfl) ?_
    refine lv_sipush (v := iZ 300) hx hb dX11_years_15 sip_300 ?_
    refine lv_icmp_le (tgt := 27) hx hb dX11_years_18 rfl (fun c_3 => ?_) (fun c_3 => ?_)
    ·
      have c_3 := (zle (x := iZ x1) (y := iZ 300) rfl rfl ⟨by omega, by omega⟩ wn_300).mp c_3
      refine lv_aload_n hx hb dX11_years_27 rfl (lv_at hl 0 rfl) ?_
      refine va_get (D := D) (ci := 11) (v := .ref hr1) (C := RX11) (T := TX11) (N := 16) hx hb hts iX11 hown hK hP 0 rfl rfl 4 (bl rfl) (hts _ qf_X11_32) (fun _ h => h) rfl dX11_years_28 ?_
      refine lv_iload_n hx hb dX11_years_31 rfl (lv_at hl 1 rfl) ?_
      refine CWV (As := [.int (iZ x1)]) (rest := []) (wc := _) (wr := [(hx1, .inr (11, [.ref ta, .ref hw1, .ref hw12, .ref ka, .ref hr1, .ref hq, .ref hv, .ref h, .ref hn1, .ref hL, .ref li, .int (iZ ev), .int (iZ mk), .int (iZ ou), .long up, .long lo])), (hv, .inr (10, [.ref hr1, .ref oo, .int (iZ de), sv, sv2])), (oo, .inl (k 1, 3, .inl of0)), (hw12, .inr (8, [.ref hs2, .ref hc2, .ref hy2])), (hy2, .inr (9, [.ref yw2, .ref y12, .ref y22, .ref y32, .ref yp2, .int (iZ th2), .int (iZ ys2), .int (iZ yr2)])), (yw2, .inl (k 1, 60, .inl ywf2)), (y12, .inl (k 1, 60, .inl y1f2)), (y22, .inl (k 1, 60, .inl y2f2)), (y32, .inl (k 1, 60, .inl y3f2)), (yp2, .inl (k 1, 60, .inl ypf2)), (hw1, .inr (8, [.ref hs, .ref hc, .ref hy])), (hy, .inr (9, [.ref yw, .ref y1, .ref y2, .ref y3, .ref yp, .int (iZ th), .int (iZ ys), .int (iZ yr)])), (yw, .inl (k 1, 60, .inl ywf)), (y1, .inl (k 1, 60, .inl y1f)), (y2, .inl (k 1, 60, .inl y2f)), (y3, .inl (k 1, 60, .inl y3f)), (yp, .inl (k 1, 60, .inl ypf)), (hs, .inr (5, [.ref hN, .ref hf, .ref hg, .int (iZ n), .int (iZ ni), .int (iZ lw), .int (iZ we)])), (hN, .inl (k 2, 6, .inr (.inl nf)))]) hx hb hml hown hts hKK hP hD hS hA (x_open l D k hr1 tx kw tp ln pl en ki va ke fk fp nm bf kwf x1 ⟨by omega, by omega⟩ hbf hkw) ci_X4_open qm_X11_156 ⟨Nat.le_of_ble_eq_true rfl, Nat.le_of_ble_eq_true rfl⟩ ⟨Nat.le_of_ble_eq_true rfl, Nat.le_of_ble_eq_true rfl⟩ [3, 4, 5] [0, 1, 2, 6, 7, 8, 9, 10, 11, 12, 13, 14, 15, 16, 17, 18, 19, 20, 21] rfl rfl rfl rfl rfl (dj rfl) 0 rfl rfl rfl hl.1 rfl (Nat.le_of_ble_eq_true rfl) dX11_years_32 (fun u_4 H locs hφ hP hD hS => ?_)
      obtain ⟨p_5, p_6, p_7⟩ : (RDX (tX bf u_4.1.2.2.1) 0 u_4.1.2.2.2.1 u_4.1.2.2.2.2.1 u_4.1.2.2.2.2.2.1 u_4.1.2.2.2.2.2.2.1 u_4.1.2.2.2.2.2.2.2.1 u_4.2.1.2) ∧ ((0 ≤ u_4.1.2.1 ∧ u_4.1.2.1 ≤ 900) ∧ (0 ≤ u_4.1.2.2.1 ∧ u_4.1.2.2.1 ≤ 900) ∧ (0 ≤ u_4.1.2.2.2.1 ∧ u_4.1.2.2.2.1 ≤ u_4.1.2.2.2.2.1) ∧ (u_4.1.2.2.2.2.1 ≤ u_4.1.2.2.1) ∧ (0 ≤ u_4.1.2.2.2.2.2.1 ∧ u_4.1.2.2.2.2.2.1 ≤ 4) ∧ (-2147483648 ≤ u_4.1.2.2.2.2.2.2.1 ∧ u_4.1.2.2.2.2.2.2.1 < 2147483648) ∧ (-1 ≤ u_4.1.2.2.2.2.2.2.2.1 ∧ u_4.1.2.2.2.2.2.2.2.1 ≤ 24)) ∧ ((u_4.1.2.1 : Int) = 0 ∧ u_4.1.2.2.1 = x1 ∧ (u_4.1.2.2.2.2.2.2.2.2.1 : Int) = 0 ∧ u_4.1.2.2.2.2.2.2.2.2.2 = -1) := hφ
      obtain ⟨⟨ar_8, br_8⟩, cr_8, dr_8, er_8, fr_8, gr_8, hr_8⟩ := id p_5
      refine W.eq (g2 := F0 m 35 ls []) rfl ?_
      refine lv_aload_n hx hb dX11_years_35 rfl (lv_at hl 0 rfl) ?_
      refine va_get (D := D) (ci := 11) (v := .ref hv) (C := RX11) (T := TX11) (N := 16) hx hb hts iX11 hown hK hP 0 rfl rfl 6 (bl rfl) (hts _ qf_X11_48) (fun _ h => h) rfl dX11_years_36 ?_
      refine lv_aload_n hx hb dX11_years_39 rfl (lv_at hl 0 rfl) ?_
      refine va_get (D := D) (ci := 11) (v := .ref hw12) (C := RX11) (T := TX11) (N := 16) hx hb hts iX11 hown hK hP 0 rfl rfl 2 (bl rfl) (hts _ qf_X11_22) (fun _ h => h) rfl dX11_years_40 ?_
      refine va_get (D := D) (ci := 8) (v := .ref hy2) (C := RX8) (T := TX8) (N := 3) hx hb hts iX8 hown hK hP 3 rfl rfl 2 (bl rfl) (hts _ qf_X11_177) (fun _ h => h) rfl dX11_years_43 ?_
      refine lv_aload_n hx hb dX11_years_46 rfl (lv_at hl 0 rfl) ?_
      refine va_get (D := D) (ci := 11) (v := .ref hw1) (C := RX11) (T := TX11) (N := 16) hx hb hts iX11 hown hK hP 0 rfl rfl 1 (bl rfl) (hts _ qf_X11_18) (fun _ h => h) rfl dX11_years_47 ?_
      refine va_get (D := D) (ci := 8) (v := .ref hs) (C := RX8) (T := TX8) (N := 3) hx hb hts iX8 hown hK hP 10 rfl rfl 0 (bl rfl) (hts _ qf_X11_54) (fun _ h => h) rfl dX11_years_50 ?_
      refine CWV (As := [.ref hy2, .ref hs]) (rest := []) (wc := _) (wr := [(hx1, .inr (11, [.ref ta, .ref hw1, .ref hw12, .ref ka, .ref hr1, .ref hq, .ref hv, .ref h, .ref hn1, .ref hL, .ref li, .int (iZ ev), .int (iZ mk), .int (iZ ou), .long up, .long lo])), (hw12, .inr (8, [.ref hs2, .ref hc2, .ref hy2])), (hw1, .inr (8, [.ref hs, .ref hc, .ref hy])), (hy, .inr (9, [.ref yw, .ref y1, .ref y2, .ref y3, .ref yp, .int (iZ th), .int (iZ ys), .int (iZ yr)])), (yw, .inl (k 1, 60, .inl ywf)), (y1, .inl (k 1, 60, .inl y1f)), (y2, .inl (k 1, 60, .inl y2f)), (y3, .inl (k 1, 60, .inl y3f)), (yp, .inl (k 1, 60, .inl ypf))]) hx hb hml hown hts hKK hP hD hS hA (x_yreadInto l D k hv oo hr1 tx kw hs hN hf hg de of0 u_4.1.2.1 u_4.1.2.2.1 u_4.1.2.2.2.1 u_4.1.2.2.2.2.1 u_4.1.2.2.2.2.2.1 u_4.1.2.2.2.2.2.2.1 u_4.1.2.2.2.2.2.2.2.1 u_4.1.2.2.2.2.2.2.2.2.1 u_4.1.2.2.2.2.2.2.2.2.2 u_4.2.1.2 bf kwf hy2 yw2 y12 y22 y32 yp2 th2 ys2 yr2 ywf2 y1f2 y2f2 y3f2 ypf2 n ni lw we nf sv sv2 0 N (by first | with_reducible assumption | exact ⟨⟨by omega, by omega⟩, ⟨by omega, by omega⟩, ⟨by omega, by omega⟩, by omega, ⟨by omega, by omega⟩, ⟨by omega, by omega⟩, by omega, by omega⟩) hbf hkw p_5 ⟨by omega, by omega⟩ hns (by omega) (by omega)) ci_X10_readInto qm_X11_181 ⟨Nat.le_of_ble_eq_true rfl, Nat.le_of_ble_eq_true rfl⟩ ⟨Nat.le_of_ble_eq_true rfl, Nat.le_of_ble_eq_true rfl⟩ [1, 2, 19, 20, 21, 4, 5, 6, 7, 8, 9, 17, 18] [0, 3, 10, 11, 12, 13, 14, 15, 16] rfl rfl rfl rfl rfl (dj rfl) 0 rfl rfl rfl hl.1 rfl (Nat.le_of_ble_eq_true rfl) dX11_years_53 (fun u_9 H locs hφ hP hD hS => ?_)
      obtain ⟨p_10, p_11, p_12, p_13⟩ : ((0 ≤ u_4.1.2.1 ∧ u_4.1.2.1 ≤ 900) ∧ (0 ≤ u_4.1.2.2.1 ∧ u_4.1.2.2.1 ≤ 900) ∧ (0 ≤ u_9.1.2.1 ∧ u_9.1.2.1 ≤ u_9.1.2.2.1) ∧ (u_9.1.2.2.1 ≤ u_4.1.2.2.1) ∧ (0 ≤ u_9.1.2.2.2.1 ∧ u_9.1.2.2.2.1 ≤ 4) ∧ (-2147483648 ≤ u_9.1.2.2.2.2.1 ∧ u_9.1.2.2.2.2.1 < 2147483648) ∧ (-1 ≤ u_9.1.2.2.2.2.2.1 ∧ u_9.1.2.2.2.2.2.1 ≤ 24)) ∧ (u_9.1.1 = 0 ∨ u_9.1.1 = 1) ∧ (u_9.1.2.2.2.2.2.2.2.2.1 = u_9.1.1) ∧ (((u_9.1.1 : Int) = 1 ∧ ∃ W9 A9 B9 C9 P9 O9 : Int → Int, xYrs (tX bf u_4.1.2.2.1) N n = .inr (u_9.1.2.2.2.2.2.2.2.2.2.2.2, u_9.1.2.2.2.2.2.2.2.2.2.2.1, 0, W9, A9, B9, C9, P9, O9) ∧ YSY u_9.1.2.2.2.2.2.2.2.2.2.2.2 0 u_9.2.2.1.2.1 u_9.2.2.1.2.2.1 u_9.2.2.1.2.2.2.1 u_9.2.2.1.2.2.2.2.1 u_9.2.2.1.2.2.2.2.2 u_9.2.2.1.1 W9 A9 B9 C9 P9 O9 ∧ YV_ n (u_9.1.2.2.2.2.2.2.2.2.2.2.2, u_9.1.2.2.2.2.2.2.2.2.2.2.1, 0, W9, A9, B9, C9, P9, O9) ∧ u_9.1.2.2.2.2.2.2.1 = u_4.1.2.2.2.2.2.2.2.2.1 ∧ u_9.1.2.2.2.2.2.2.2.1 = u_4.1.2.2.2.2.2.2.2.2.2) ∨ ((u_9.1.1 : Int) = 0 ∧ xYrs (tX bf u_4.1.2.2.1) N n = .inl (u_9.1.2.2.2.2.2.2.1, u_9.1.2.2.2.2.2.2.2.1))) := hφ
      refine W.eq (g2 := F0 m 56 ls [.int (iZ u_9.1.1)]) rfl ?_
      rcases p_13 with ⟨qt_14, W9t_14, A9t_14, B9t_14, C9t_14, P9t_14, O9t_14, st_14, yt_14, kt_14, ut_14, vt_14⟩ | ⟨qt_14, st_14⟩
      ·
        rw [qt_14]
        refine lv_istore_n (lv' := [(2, .int (iZ 1)), (0, .ref hx1), (1, .int (iZ x1))]) hx hb dX11_years_56 rfl hl (bl rfl) rfl (fun ls hl => ?_)
        refine lv_iload_n hx hb dX11_years_57 rfl (lv_at hl 0 rfl) ?_
        refine lv_if_ne (tgt := 68) hx hb dX11_years_58 rfl (fun _ => ?_) (fun c => absurd c (by decide))
        obtain ⟨⟨v1, v2, v3, v4, v0⟩, -⟩ := id kt_14
        have hYI9 := YI_of yt_14 kt_14 (by omega)
        refine lv_aload_n hx hb dX11_years_68 rfl (lv_at hl 1 rfl) ?_
        refine va_get (D := D) (ci := 11) (v := .ref hw1) (C := RX11) (T := TX11) (N := 16) hx hb hts iX11 hown hK hP 0 rfl rfl 1 (bl rfl) (hts _ qf_X11_18) (fun _ h => h) rfl dX11_years_69 ?_
        refine va_get (D := D) (ci := 8) (v := .ref hy) (C := RX8) (T := TX8) (N := 3) hx hb hts iX8 hown hK hP 2 rfl rfl 2 (bl rfl) (hts _ qf_X11_177) (fun _ h => h) rfl dX11_years_72 ?_
        refine lv_aload_n hx hb dX11_years_75 rfl (lv_at hl 1 rfl) ?_
        refine va_get (D := D) (ci := 11) (v := .ref hw12) (C := RX11) (T := TX11) (N := 16) hx hb hts iX11 hown hK hP 0 rfl rfl 2 (bl rfl) (hts _ qf_X11_22) (fun _ h => h) rfl dX11_years_76 ?_
        refine va_get (D := D) (ci := 8) (v := .ref hy2) (C := RX8) (T := TX8) (N := 3) hx hb hts iX8 hown hK hP 1 rfl rfl 2 (bl rfl) (hts _ qf_X11_177) (fun _ h => h) rfl dX11_years_79 ?_
        refine CWV (As := [.ref hy2]) (rest := []) (wc := _) (wr := [(hx1, .inr (11, [.ref ta, .ref hw1, .ref hw12, .ref ka, .ref hr1, .ref hq, .ref hv, .ref h, .ref hn1, .ref hL, .ref li, .int (iZ ev), .int (iZ mk), .int (iZ ou), .long up, .long lo])), (hw12, .inr (8, [.ref hs2, .ref hc2, .ref hy2])), (hw1, .inr (8, [.ref hs, .ref hc, .ref hy])), (hv, .inr (10, [.ref hr1, .ref oo, .int (iZ u_9.1.2.2.2.2.2.2.2.2.2.1), .ref hy2, .ref hs])), (oo, .inl (k 1, 3, .inl u_9.2.2.1.1)), (hr1, .inr (4, [.ref tx, .ref kw, .int (iZ u_4.1.2.1), .int (iZ u_4.1.2.2.1), .int (iZ u_9.1.2.1), .int (iZ u_9.1.2.2.1), .int (iZ u_9.1.2.2.2.1), .int (iZ u_9.1.2.2.2.2.1), .int (iZ u_9.1.2.2.2.2.2.1), .long u_9.2.1.2, .int (iZ u_9.1.2.2.2.2.2.2.1), .int (iZ u_9.1.2.2.2.2.2.2.2.1)])), (tx, .inl (k 0, 900, .inl bf)), (kw, .inl (k 2, 25, .inr (.inl kwf))), (hs, .inr (5, [.ref hN, .ref hf, .ref hg, .int (iZ n), .int (iZ ni), .int (iZ lw), .int (iZ we)])), (hN, .inl (k 2, 6, .inr (.inl nf)))]) hx hb hml hown hts hKK hP hD hS hA (k_ycopy l D k hy yw y1 y2 y3 yp th ys yr ywf y1f y2f y3f ypf hy2 yw2 y12 y22 y32 yp2 u_9.1.2.2.2.2.2.2.2.2.1 u_9.1.2.2.2.2.2.2.2.2.2.2.1 u_9.1.2.2.2.2.2.2.2.2.2.2.2 u_9.2.2.1.2.1 u_9.2.2.1.2.2.1 u_9.2.2.1.2.2.2.1 u_9.2.2.1.2.2.2.2.1 u_9.2.2.1.2.2.2.2.2 (by omega) ⟨by omega, by omega⟩) ci_X9_copyFrom qm_X11_184 ⟨Nat.le_of_ble_eq_true rfl, Nat.le_of_ble_eq_true rfl⟩ ⟨Nat.le_of_ble_eq_true rfl, Nat.le_of_ble_eq_true rfl⟩ [3, 4, 5, 6, 7, 8, 14, 15, 16, 17, 18, 19] [0, 1, 2, 9, 10, 11, 12, 13, 20, 21] rfl rfl rfl rfl rfl (dj rfl) 0 rfl rfl rfl hl.1 rfl (Nat.le_of_ble_eq_true rfl) dX11_years_82 (fun u_16 H locs hφ hP hD hS => ?_)
        obtain ⟨p_17, p_18, p_19, p_20, p_21⟩ : (CPY u_16.2.2.1.1 u_9.2.2.1.2.1 u_9.1.2.2.2.2.2.2.2.2.2.2.2) ∧ (CPY u_16.2.2.1.2.1 u_9.2.2.1.2.2.1 u_9.1.2.2.2.2.2.2.2.2.2.2.2) ∧ (CPY u_16.2.2.1.2.2.1 u_9.2.2.1.2.2.2.1 u_9.1.2.2.2.2.2.2.2.2.2.2.2) ∧ (CPY u_16.2.2.1.2.2.2.1 u_9.2.2.1.2.2.2.2.1 u_9.1.2.2.2.2.2.2.2.2.2.2.2) ∧ (CPY u_16.2.2.1.2.2.2.2 u_9.2.2.1.2.2.2.2.2 u_9.1.2.2.2.2.2.2.2.2.2.2.2) := hφ
        refine W.eq (g2 := F0 m 85 ls []) rfl ?_
        refine lv_aload_n hx hb dX11_years_85 rfl (lv_at hl 1 rfl) ?_
        refine lv_aload_n hx hb dX11_years_86 rfl (lv_at hl 1 rfl) ?_
        refine va_get (D := D) (ci := 11) (v := .ref hw1) (C := RX11) (T := TX11) (N := 16) hx hb hts iX11 hown hK hP 0 rfl rfl 1 (bl rfl) (hts _ qf_X11_18) (fun _ h => h) rfl dX11_years_87 ?_
        refine va_get (D := D) (ci := 8) (v := .ref hy) (C := RX8) (T := TX8) (N := 3) hx hb hts iX8 hown hK hP 2 rfl rfl 2 (bl rfl) (hts _ qf_X11_177) (fun _ h => h) rfl dX11_years_90 ?_
        refine va_get (D := D) (ci := 9) (v := .int (iZ u_9.1.2.2.2.2.2.2.2.2.2.2.1)) (C := RX9) (T := TX9) (N := 8) hx hb hts iX9 hown hK hP 10 rfl rfl 6 (bl rfl) (hts _ qf_X11_190) (fun _ h => h) rfl dX11_years_93 ?_
        refine CWV (As := [.int (iZ u_9.1.2.2.2.2.2.2.2.2.2.2.1)]) (rest := []) (wc := _) (wr := [(hw12, .inr (8, [.ref hs2, .ref hc2, .ref hy2])), (hw1, .inr (8, [.ref hs, .ref hc, .ref hy])), (hv, .inr (10, [.ref hr1, .ref oo, .int (iZ u_9.1.2.2.2.2.2.2.2.2.2.1), .ref hy2, .ref hs])), (oo, .inl (k 1, 3, .inl u_9.2.2.1.1)), (hr1, .inr (4, [.ref tx, .ref kw, .int (iZ u_4.1.2.1), .int (iZ u_4.1.2.2.1), .int (iZ u_9.1.2.1), .int (iZ u_9.1.2.2.1), .int (iZ u_9.1.2.2.2.1), .int (iZ u_9.1.2.2.2.2.1), .int (iZ u_9.1.2.2.2.2.2.1), .long u_9.2.1.2, .int (iZ u_9.1.2.2.2.2.2.2.1), .int (iZ u_9.1.2.2.2.2.2.2.2.1)])), (tx, .inl (k 0, 900, .inl bf)), (kw, .inl (k 2, 25, .inr (.inl kwf))), (hs, .inr (5, [.ref hN, .ref hf, .ref hg, .int (iZ n), .int (iZ ni), .int (iZ lw), .int (iZ we)])), (hN, .inl (k 2, 6, .inr (.inl nf))), (hy, .inr (9, [.ref yw, .ref y1, .ref y2, .ref y3, .ref yp, .int (iZ u_9.1.2.2.2.2.2.2.2.2.1), .int (iZ u_9.1.2.2.2.2.2.2.2.2.2.2.1), .int (iZ u_9.1.2.2.2.2.2.2.2.2.2.2.2)])), (yw, .inl (k 1, 60, .inl u_16.2.2.1.1)), (y1, .inl (k 1, 60, .inl u_16.2.2.1.2.1)), (y2, .inl (k 1, 60, .inl u_16.2.2.1.2.2.1)), (y3, .inl (k 1, 60, .inl u_16.2.2.1.2.2.2.1)), (yp, .inl (k 1, 60, .inl u_16.2.2.1.2.2.2.2)), (hy2, .inr (9, [.ref yw2, .ref y12, .ref y22, .ref y32, .ref yp2, .int (iZ u_9.1.2.2.2.2.2.2.2.2.1), .int (iZ u_9.1.2.2.2.2.2.2.2.2.2.2.1), .int (iZ u_9.1.2.2.2.2.2.2.2.2.2.2.2)])), (yw2, .inl (k 1, 60, .inl u_9.2.2.1.2.1)), (y12, .inl (k 1, 60, .inl u_9.2.2.1.2.2.1)), (y22, .inl (k 1, 60, .inl u_9.2.2.1.2.2.2.1)), (y32, .inl (k 1, 60, .inl u_9.2.2.1.2.2.2.2.1)), (yp2, .inl (k 1, 60, .inl u_9.2.2.1.2.2.2.2.2))]) hx hb hml hown hts hKK hP hD hS hA (k_answer l D k hx1 ta hw1 hw12 ka hr1 hq hv h hn1 hL li ev mk ou up lo u_9.1.2.2.2.2.2.2.2.2.2.2.1) ci_X11_answer qm_X11_174 ⟨Nat.le_of_ble_eq_true rfl, Nat.le_of_ble_eq_true rfl⟩ ⟨Nat.le_of_ble_eq_true rfl, Nat.le_of_ble_eq_true rfl⟩ [0] [1, 2, 3, 4, 5, 6, 7, 8, 9, 10, 11, 12, 13, 14, 15, 16, 17, 18, 19, 20, 21] rfl rfl rfl rfl rfl (dj rfl) 0 rfl rfl rfl hl.1 rfl (Nat.le_of_ble_eq_true rfl) dX11_years_96 (fun u_22 H locs hφ hP hD hS => ?_)
        refine W.eq (g2 := F0 m 99 ls [.int (iZ u_9.1.2.2.2.2.2.2.2.2.2.2.1)]) rfl ?_
        exact EWi hx hb hr hlocks hS ((u_9.1.2.2.2.2.2.2.2.2.2.2.1, u_4.1.2.1, u_4.1.2.2.1, u_9.1.2.1, u_9.1.2.2.1, u_9.1.2.2.2.1, u_9.1.2.2.2.2.1, u_9.1.2.2.2.2.2.1, u_9.1.2.2.2.2.2.2.1, u_9.1.2.2.2.2.2.2.2.1, 0, u_9.1.2.2.2.2.2.2.2.2.2.1, u_9.1.2.2.2.2.2.2.2.2.1, u_9.1.2.2.2.2.2.2.2.2.2.2.1, u_9.1.2.2.2.2.2.2.2.2.2.2.2, u_9.1.2.2.2.2.2.2.2.2.1, u_9.1.2.2.2.2.2.2.2.2.2.2.1, u_9.1.2.2.2.2.2.2.2.2.2.2.2), (0, u_9.2.1.2), (u_9.2.2.1.1, u_9.2.2.1.2.1, u_9.2.2.1.2.2.1, u_9.2.2.1.2.2.2.1, u_9.2.2.1.2.2.2.2.1, u_9.2.2.1.2.2.2.2.2, u_16.2.2.1.1, u_16.2.2.1.2.1, u_16.2.2.1.2.2.1, u_16.2.2.1.2.2.2.1, u_16.2.2.1.2.2.2.2), (), (.ref hy2, .ref hs)) rfl ⟨(show (0 ≤ u_4.1.2.1 ∧ u_4.1.2.1 ≤ 900) ∧ (0 ≤ u_4.1.2.2.1 ∧ u_4.1.2.2.1 ≤ 900) ∧ (0 ≤ u_9.1.2.1 ∧ u_9.1.2.1 ≤ u_9.1.2.2.1) ∧ (u_9.1.2.2.1 ≤ u_4.1.2.2.1) ∧ (0 ≤ u_9.1.2.2.2.1 ∧ u_9.1.2.2.2.1 ≤ 4) ∧ (-2147483648 ≤ u_9.1.2.2.2.2.1 ∧ u_9.1.2.2.2.2.1 < 2147483648) ∧ (-1 ≤ u_9.1.2.2.2.2.2.1 ∧ u_9.1.2.2.2.2.2.1 ≤ 24) from (by first | with_reducible assumption | exact ⟨⟨by omega, by omega⟩, ⟨by omega, by omega⟩, ⟨by omega, by omega⟩, by omega, ⟨by omega, by omega⟩, ⟨by omega, by omega⟩, by omega, by omega⟩)), (show ((0 ≤ x1 ∧ x1 ≤ tp ∧ x1 ≤ 300) ∧ (u_4.1.2.1 : Int) = 0) ∨ (¬ (0 ≤ x1 ∧ x1 ≤ tp ∧ x1 ≤ 300) ∧ u_4.1.2.1 = tp) from (by omega)), (show (u_9.1.2.2.2.2.2.2.2.2.1 = 0 ∨ u_9.1.2.2.2.2.2.2.2.2.1 = 1) ∧ (0 ≤ u_9.1.2.2.2.2.2.2.2.2.2.2.1 ∧ u_9.1.2.2.2.2.2.2.2.2.2.2.1 ≤ 30) ∧ (0 ≤ u_9.1.2.2.2.2.2.2.2.2.2.2.2 ∧ u_9.1.2.2.2.2.2.2.2.2.2.2.2 ≤ 60) from ⟨by omega, ⟨by omega, by omega⟩, ⟨by omega, by omega⟩⟩), (show YI u_16.2.2.1.1 u_16.2.2.1.2.1 u_16.2.2.1.2.2.2.1 u_16.2.2.1.2.2.2.2 n u_9.1.2.2.2.2.2.2.2.2.2.2.2 from (CPY.yi p_17 p_18 p_20 p_21 hYI9)), (show ((0 ≤ x1 ∧ x1 ≤ tp ∧ x1 ≤ 300) ∧ ∃ s9 : YS_, xYrs (tX bf x1) N n = .inr s9 ∧ (YV_ n s9 ∧ s9.2.2.1 = 0) ∧ yCM u_16.2.2.1.1 u_16.2.2.1.2.1 u_16.2.2.1.2.2.1 u_16.2.2.1.2.2.2.1 u_16.2.2.1.2.2.2.2 u_9.1.2.2.2.2.2.2.2.2.2.2.2 (pOf s9) ∧ u_9.1.2.2.2.2.2.2.2.2.1 = 1 ∧ u_9.1.2.2.2.2.2.2.2.2.2.2.1 = s9.2.1 ∧ (u_9.1.2.2.2.2.2.2.1 : Int) = 0 ∧ u_9.1.2.2.2.2.2.2.2.1 = -1) ∨ ((0 ≤ x1 ∧ x1 ≤ tp ∧ x1 ≤ 300) ∧ ∃ e9 : Int × Int, xYrs (tX bf x1) N n = .inl e9 ∧ (u_9.1.2.2.2.2.2.2.2.2.2.2.1 : Int) = -1 ∧ u_9.1.2.2.2.2.2.2.1 = e9.1 ∧ u_9.1.2.2.2.2.2.2.2.1 = e9.2 ∧ u_9.1.2.2.2.2.2.2.2.2.1 = th ∧ u_9.1.2.2.2.2.2.2.2.2.2.2.1 = ys ∧ u_9.1.2.2.2.2.2.2.2.2.2.2.2 = yr ∧ u_16.2.2.1.1 = ywf ∧ u_16.2.2.1.2.1 = y1f ∧ u_16.2.2.1.2.2.1 = y2f ∧ u_16.2.2.1.2.2.2.1 = y3f ∧ u_16.2.2.1.2.2.2.2 = ypf) ∨ (¬ (0 ≤ x1 ∧ x1 ≤ tp ∧ x1 ≤ 300) ∧ (u_9.1.2.2.2.2.2.2.2.2.2.2.1 : Int) = -1 ∧ u_9.1.2.2.2.2.2.2.1 = fk ∧ u_9.1.2.2.2.2.2.2.2.1 = fp ∧ u_9.1.2.2.2.2.2.2.2.2.1 = th ∧ u_9.1.2.2.2.2.2.2.2.2.2.2.1 = ys ∧ u_9.1.2.2.2.2.2.2.2.2.2.2.2 = yr ∧ u_16.2.2.1.1 = ywf ∧ u_16.2.2.1.2.1 = y1f ∧ u_16.2.2.1.2.2.1 = y2f ∧ u_16.2.2.1.2.2.2.1 = y3f ∧ u_16.2.2.1.2.2.2.2 = ypf) from (Or.inl ⟨⟨by omega, by omega, by omega⟩, (u_9.1.2.2.2.2.2.2.2.2.2.2.2, u_9.1.2.2.2.2.2.2.2.2.2.2.1, 0, W9t_14, A9t_14, B9t_14, C9t_14, P9t_14, O9t_14), by rw [(show x1 = u_4.1.2.2.1 from (by omega))]; exact st_14, ⟨kt_14, rfl⟩, yCM.of yt_14 p_17 p_18 p_19 p_20 p_21, by omega, by show _ = u_9.1.2.2.2.2.2.2.2.2.2.2.1; omega, by omega, by omega⟩))⟩ (hP.sub [21, 2, 3, 4, 5, 6, 0, 15, 16, 17, 18, 19, 20, 1, 9, 10, 11, 12, 13, 14, 7, 8] rfl) (hD.sub [21, 2, 3, 4, 5, 6, 0, 15, 16, 17, 18, 19, 20, 1, 9, 10, 11, 12, 13, 14, 7, 8] rfl rfl) dX11_years_99
      ·
        rw [qt_14]
        refine lv_istore_n (lv' := [(2, .int (iZ 0)), (0, .ref hx1), (1, .int (iZ x1))]) hx hb dX11_years_56 rfl hl (bl rfl) rfl (fun ls hl => ?_)
        refine lv_iload_n hx hb dX11_years_57 rfl (lv_at hl 0 rfl) ?_
        refine lv_if_ne (tgt := 68) hx hb dX11_years_58 rfl (fun c => absurd (by decide) c) (fun _ => ?_)
        refine lv_aload_n hx hb dX11_years_61 rfl (lv_at hl 1 rfl) ?_
        refine lv_bipush (v := iZ 9) hx hb dX11_years_62 bip_9 ?_
        refine CWV (As := [.int (iZ 9)]) (rest := []) (wc := _) (wr := [(hw12, .inr (8, [.ref hs2, .ref hc2, .ref hy2])), (hw1, .inr (8, [.ref hs, .ref hc, .ref hy])), (hy, .inr (9, [.ref yw, .ref y1, .ref y2, .ref y3, .ref yp, .int (iZ th), .int (iZ ys), .int (iZ yr)])), (yw, .inl (k 1, 60, .inl ywf)), (y1, .inl (k 1, 60, .inl y1f)), (y2, .inl (k 1, 60, .inl y2f)), (y3, .inl (k 1, 60, .inl y3f)), (yp, .inl (k 1, 60, .inl ypf)), (hv, .inr (10, [.ref hr1, .ref oo, .int (iZ u_9.1.2.2.2.2.2.2.2.2.2.1), .ref hy2, .ref hs])), (oo, .inl (k 1, 3, .inl u_9.2.2.1.1)), (hr1, .inr (4, [.ref tx, .ref kw, .int (iZ u_4.1.2.1), .int (iZ u_4.1.2.2.1), .int (iZ u_9.1.2.1), .int (iZ u_9.1.2.2.1), .int (iZ u_9.1.2.2.2.1), .int (iZ u_9.1.2.2.2.2.1), .int (iZ u_9.1.2.2.2.2.2.1), .long u_9.2.1.2, .int (iZ u_9.1.2.2.2.2.2.2.1), .int (iZ u_9.1.2.2.2.2.2.2.2.1)])), (tx, .inl (k 0, 900, .inl bf)), (kw, .inl (k 2, 25, .inr (.inl kwf))), (hy2, .inr (9, [.ref yw2, .ref y12, .ref y22, .ref y32, .ref yp2, .int (iZ u_9.1.2.2.2.2.2.2.2.2.1), .int (iZ u_9.1.2.2.2.2.2.2.2.2.2.2.1), .int (iZ u_9.1.2.2.2.2.2.2.2.2.2.2.2)])), (yw2, .inl (k 1, 60, .inl u_9.2.2.1.2.1)), (y12, .inl (k 1, 60, .inl u_9.2.2.1.2.2.1)), (y22, .inl (k 1, 60, .inl u_9.2.2.1.2.2.2.1)), (y32, .inl (k 1, 60, .inl u_9.2.2.1.2.2.2.2.1)), (yp2, .inl (k 1, 60, .inl u_9.2.2.1.2.2.2.2.2)), (hs, .inr (5, [.ref hN, .ref hf, .ref hg, .int (iZ n), .int (iZ ni), .int (iZ lw), .int (iZ we)])), (hN, .inl (k 2, 6, .inr (.inl nf)))]) hx hb hml hown hts hKK hP hD hS hA (k_refuse l D k hx1 ta hw1 hw12 ka hr1 hq hv h hn1 hL li ev mk ou up lo 9) ci_X11_refuse qm_X11_126 ⟨Nat.le_of_ble_eq_true rfl, Nat.le_of_ble_eq_true rfl⟩ ⟨Nat.le_of_ble_eq_true rfl, Nat.le_of_ble_eq_true rfl⟩ [0] [1, 2, 3, 4, 5, 6, 7, 8, 9, 10, 11, 12, 13, 14, 15, 16, 17, 18, 19, 20, 21] rfl rfl rfl rfl rfl (dj rfl) 0 rfl rfl rfl hl.1 rfl (Nat.le_of_ble_eq_true rfl) dX11_years_64 (fun u_24 H locs hφ hP hD hS => ?_)
        refine W.eq (g2 := F0 m 67 ls [.int (iZ (-1))]) rfl ?_
        exact EWi hx hb hr hlocks hS (((-1), u_4.1.2.1, u_4.1.2.2.1, u_9.1.2.1, u_9.1.2.2.1, u_9.1.2.2.2.1, u_9.1.2.2.2.2.1, u_9.1.2.2.2.2.2.1, u_9.1.2.2.2.2.2.2.1, u_9.1.2.2.2.2.2.2.2.1, 9, u_9.1.2.2.2.2.2.2.2.2.2.1, u_9.1.2.2.2.2.2.2.2.2.1, u_9.1.2.2.2.2.2.2.2.2.2.2.1, u_9.1.2.2.2.2.2.2.2.2.2.2.2, th, ys, yr), (0, u_9.2.1.2), (u_9.2.2.1.1, u_9.2.2.1.2.1, u_9.2.2.1.2.2.1, u_9.2.2.1.2.2.2.1, u_9.2.2.1.2.2.2.2.1, u_9.2.2.1.2.2.2.2.2, ywf, y1f, y2f, y3f, ypf), (), (.ref hy2, .ref hs)) rfl ⟨(show (0 ≤ u_4.1.2.1 ∧ u_4.1.2.1 ≤ 900) ∧ (0 ≤ u_4.1.2.2.1 ∧ u_4.1.2.2.1 ≤ 900) ∧ (0 ≤ u_9.1.2.1 ∧ u_9.1.2.1 ≤ u_9.1.2.2.1) ∧ (u_9.1.2.2.1 ≤ u_4.1.2.2.1) ∧ (0 ≤ u_9.1.2.2.2.1 ∧ u_9.1.2.2.2.1 ≤ 4) ∧ (-2147483648 ≤ u_9.1.2.2.2.2.1 ∧ u_9.1.2.2.2.2.1 < 2147483648) ∧ (-1 ≤ u_9.1.2.2.2.2.2.1 ∧ u_9.1.2.2.2.2.2.1 ≤ 24) from (by first | with_reducible assumption | exact ⟨⟨by omega, by omega⟩, ⟨by omega, by omega⟩, ⟨by omega, by omega⟩, by omega, ⟨by omega, by omega⟩, ⟨by omega, by omega⟩, by omega, by omega⟩)), (show ((0 ≤ x1 ∧ x1 ≤ tp ∧ x1 ≤ 300) ∧ (u_4.1.2.1 : Int) = 0) ∨ (¬ (0 ≤ x1 ∧ x1 ≤ tp ∧ x1 ≤ 300) ∧ u_4.1.2.1 = tp) from (by omega)), (show (th = 0 ∨ th = 1) ∧ (0 ≤ ys ∧ ys ≤ 30) ∧ (0 ≤ yr ∧ yr ≤ 60) from ⟨by omega, ⟨by omega, by omega⟩, ⟨by omega, by omega⟩⟩), (show YI ywf y1f y3f ypf n yr from hYI), (show ((0 ≤ x1 ∧ x1 ≤ tp ∧ x1 ≤ 300) ∧ ∃ s9 : YS_, xYrs (tX bf x1) N n = .inr s9 ∧ (YV_ n s9 ∧ s9.2.2.1 = 0) ∧ yCM ywf y1f y2f y3f ypf yr (pOf s9) ∧ th = 1 ∧ (-1) = s9.2.1 ∧ (u_9.1.2.2.2.2.2.2.1 : Int) = 0 ∧ u_9.1.2.2.2.2.2.2.2.1 = -1) ∨ ((0 ≤ x1 ∧ x1 ≤ tp ∧ x1 ≤ 300) ∧ ∃ e9 : Int × Int, xYrs (tX bf x1) N n = .inl e9 ∧ ((-1) : Int) = -1 ∧ u_9.1.2.2.2.2.2.2.1 = e9.1 ∧ u_9.1.2.2.2.2.2.2.2.1 = e9.2 ∧ th = th ∧ ys = ys ∧ yr = yr ∧ ywf = ywf ∧ y1f = y1f ∧ y2f = y2f ∧ y3f = y3f ∧ ypf = ypf) ∨ (¬ (0 ≤ x1 ∧ x1 ≤ tp ∧ x1 ≤ 300) ∧ ((-1) : Int) = -1 ∧ u_9.1.2.2.2.2.2.2.1 = fk ∧ u_9.1.2.2.2.2.2.2.2.1 = fp ∧ th = th ∧ ys = ys ∧ yr = yr ∧ ywf = ywf ∧ y1f = y1f ∧ y2f = y2f ∧ y3f = y3f ∧ ypf = ypf) from (Or.inr (Or.inl ⟨⟨by omega, by omega, by omega⟩, (u_9.1.2.2.2.2.2.2.1, u_9.1.2.2.2.2.2.2.2.1), by rw [(show x1 = u_4.1.2.2.1 from (by omega))]; exact st_14, by omega, by show _ = u_9.1.2.2.2.2.2.2.1; omega, by show _ = u_9.1.2.2.2.2.2.2.2.1; omega, rfl, rfl, rfl, rfl, rfl, rfl, rfl, rfl⟩)))⟩ (hP.sub [21, 8, 9, 10, 11, 12, 0, 13, 14, 15, 16, 17, 18, 1, 2, 3, 4, 5, 6, 7, 19, 20] rfl) (hD.sub [21, 8, 9, 10, 11, 12, 0, 13, 14, 15, 16, 17, 18, 1, 2, 3, 4, 5, 6, 7, 19, 20] rfl rfl) dX11_years_67
    ·
      have c_3 := mt (zle (x := iZ x1) (y := iZ 300) rfl rfl ⟨by omega, by omega⟩ wn_300).mpr c_3
      refine lv_aload_n hx hb dX11_years_21 rfl (lv_at hl 0 rfl) ?_
      refine lv_iconst (v := iZ 1) hx hb dX11_years_22 rfl ?_
      refine CWV (As := [.int (iZ 1)]) (rest := []) (wc := _) (wr := [(hv, .inr (10, [.ref hr1, .ref oo, .int (iZ de), sv, sv2])), (oo, .inl (k 1, 3, .inl of0)), (hr1, .inr (4, [.ref tx, .ref kw, .int (iZ tp), .int (iZ ln), .int (iZ pl), .int (iZ en), .int (iZ ki), .int (iZ va), .int (iZ ke), .long nm, .int (iZ fk), .int (iZ fp)])), (tx, .inl (k 0, 900, .inl bf)), (kw, .inl (k 2, 25, .inr (.inl kwf))), (hw12, .inr (8, [.ref hs2, .ref hc2, .ref hy2])), (hy2, .inr (9, [.ref yw2, .ref y12, .ref y22, .ref y32, .ref yp2, .int (iZ th2), .int (iZ ys2), .int (iZ yr2)])), (yw2, .inl (k 1, 60, .inl ywf2)), (y12, .inl (k 1, 60, .inl y1f2)), (y22, .inl (k 1, 60, .inl y2f2)), (y32, .inl (k 1, 60, .inl y3f2)), (yp2, .inl (k 1, 60, .inl ypf2)), (hw1, .inr (8, [.ref hs, .ref hc, .ref hy])), (hy, .inr (9, [.ref yw, .ref y1, .ref y2, .ref y3, .ref yp, .int (iZ th), .int (iZ ys), .int (iZ yr)])), (yw, .inl (k 1, 60, .inl ywf)), (y1, .inl (k 1, 60, .inl y1f)), (y2, .inl (k 1, 60, .inl y2f)), (y3, .inl (k 1, 60, .inl y3f)), (yp, .inl (k 1, 60, .inl ypf)), (hs, .inr (5, [.ref hN, .ref hf, .ref hg, .int (iZ n), .int (iZ ni), .int (iZ lw), .int (iZ we)])), (hN, .inl (k 2, 6, .inr (.inl nf)))]) hx hb hml hown hts hKK hP hD hS hA (k_refuse l D k hx1 ta hw1 hw12 ka hr1 hq hv h hn1 hL li ev mk ou up lo 1) ci_X11_refuse qm_X11_126 ⟨Nat.le_of_ble_eq_true rfl, Nat.le_of_ble_eq_true rfl⟩ ⟨Nat.le_of_ble_eq_true rfl, Nat.le_of_ble_eq_true rfl⟩ [0] [1, 2, 3, 4, 5, 6, 7, 8, 9, 10, 11, 12, 13, 14, 15, 16, 17, 18, 19, 20, 21] rfl rfl rfl rfl rfl (dj rfl) 0 rfl rfl rfl hl.1 rfl (Nat.le_of_ble_eq_true rfl) dX11_years_23 (fun u_25 H locs hφ hP hD hS => ?_)
      refine W.eq (g2 := F0 m 26 ls [.int (iZ (-1))]) rfl ?_
      exact EWi hx hb hr hlocks hS (((-1), tp, ln, pl, en, ki, va, ke, fk, fp, 1, de, th2, ys2, yr2, th, ys, yr), (0, nm), (of0, ywf2, y1f2, y2f2, y3f2, ypf2, ywf, y1f, y2f, y3f, ypf), (), (sv, sv2)) rfl ⟨(show (0 ≤ tp ∧ tp ≤ 900) ∧ (0 ≤ ln ∧ ln ≤ 900) ∧ (0 ≤ pl ∧ pl ≤ en) ∧ (en ≤ ln) ∧ (0 ≤ ki ∧ ki ≤ 4) ∧ (-2147483648 ≤ va ∧ va < 2147483648) ∧ (-1 ≤ ke ∧ ke ≤ 24) from (by first | with_reducible assumption | exact ⟨⟨by omega, by omega⟩, ⟨by omega, by omega⟩, ⟨by omega, by omega⟩, by omega, ⟨by omega, by omega⟩, ⟨by omega, by omega⟩, by omega, by omega⟩)), (show ((0 ≤ x1 ∧ x1 ≤ tp ∧ x1 ≤ 300) ∧ (tp : Int) = 0) ∨ (¬ (0 ≤ x1 ∧ x1 ≤ tp ∧ x1 ≤ 300) ∧ tp = tp) from (by omega)), (show (th = 0 ∨ th = 1) ∧ (0 ≤ ys ∧ ys ≤ 30) ∧ (0 ≤ yr ∧ yr ≤ 60) from ⟨by omega, ⟨by omega, by omega⟩, ⟨by omega, by omega⟩⟩), (show YI ywf y1f y3f ypf n yr from hYI), (show ((0 ≤ x1 ∧ x1 ≤ tp ∧ x1 ≤ 300) ∧ ∃ s9 : YS_, xYrs (tX bf x1) N n = .inr s9 ∧ (YV_ n s9 ∧ s9.2.2.1 = 0) ∧ yCM ywf y1f y2f y3f ypf yr (pOf s9) ∧ th = 1 ∧ (-1) = s9.2.1 ∧ (fk : Int) = 0 ∧ fp = -1) ∨ ((0 ≤ x1 ∧ x1 ≤ tp ∧ x1 ≤ 300) ∧ ∃ e9 : Int × Int, xYrs (tX bf x1) N n = .inl e9 ∧ ((-1) : Int) = -1 ∧ fk = e9.1 ∧ fp = e9.2 ∧ th = th ∧ ys = ys ∧ yr = yr ∧ ywf = ywf ∧ y1f = y1f ∧ y2f = y2f ∧ y3f = y3f ∧ ypf = ypf) ∨ (¬ (0 ≤ x1 ∧ x1 ≤ tp ∧ x1 ≤ 300) ∧ ((-1) : Int) = -1 ∧ fk = fk ∧ fp = fp ∧ th = th ∧ ys = ys ∧ yr = yr ∧ ywf = ywf ∧ y1f = y1f ∧ y2f = y2f ∧ y3f = y3f ∧ ypf = ypf) from (Or.inr (Or.inr ⟨by omega, by omega, by omega, by omega, rfl, rfl, rfl, rfl, rfl, rfl, rfl, rfl⟩)))⟩ (hP.sub [21, 0, 1, 2, 3, 4, 5, 6, 7, 8, 9, 10, 11, 12, 13, 14, 15, 16, 17, 18, 19, 20] rfl) (hD.sub [21, 0, 1, 2, 3, 4, 5, 6, 7, 8, 9, 10, 11, 12, 13, 14, 15, 16, 17, 18, 19, 20] rfl rfl) dX11_years_26
  ·
    subst qz_1
    refine lv_if_eq (tgt := 21) hx hb dX11_years_11 rfl (fun _ => ?_) (fun c => absurd (by decide) c)
    refine lv_aload_n hx hb dX11_years_21 rfl (lv_at hl 0 rfl) ?_
    refine lv_iconst (v := iZ 1) hx hb dX11_years_22 rfl ?_
    refine CWV (As := [.int (iZ 1)]) (rest := []) (wc := _) (wr := [(hv, .inr (10, [.ref hr1, .ref oo, .int (iZ de), sv, sv2])), (oo, .inl (k 1, 3, .inl of0)), (hr1, .inr (4, [.ref tx, .ref kw, .int (iZ tp), .int (iZ ln), .int (iZ pl), .int (iZ en), .int (iZ ki), .int (iZ va), .int (iZ ke), .long nm, .int (iZ fk), .int (iZ fp)])), (tx, .inl (k 0, 900, .inl bf)), (kw, .inl (k 2, 25, .inr (.inl kwf))), (hw12, .inr (8, [.ref hs2, .ref hc2, .ref hy2])), (hy2, .inr (9, [.ref yw2, .ref y12, .ref y22, .ref y32, .ref yp2, .int (iZ th2), .int (iZ ys2), .int (iZ yr2)])), (yw2, .inl (k 1, 60, .inl ywf2)), (y12, .inl (k 1, 60, .inl y1f2)), (y22, .inl (k 1, 60, .inl y2f2)), (y32, .inl (k 1, 60, .inl y3f2)), (yp2, .inl (k 1, 60, .inl ypf2)), (hw1, .inr (8, [.ref hs, .ref hc, .ref hy])), (hy, .inr (9, [.ref yw, .ref y1, .ref y2, .ref y3, .ref yp, .int (iZ th), .int (iZ ys), .int (iZ yr)])), (yw, .inl (k 1, 60, .inl ywf)), (y1, .inl (k 1, 60, .inl y1f)), (y2, .inl (k 1, 60, .inl y2f)), (y3, .inl (k 1, 60, .inl y3f)), (yp, .inl (k 1, 60, .inl ypf)), (hs, .inr (5, [.ref hN, .ref hf, .ref hg, .int (iZ n), .int (iZ ni), .int (iZ lw), .int (iZ we)])), (hN, .inl (k 2, 6, .inr (.inl nf)))]) hx hb hml hown hts hKK hP hD hS hA (k_refuse l D k hx1 ta hw1 hw12 ka hr1 hq hv h hn1 hL li ev mk ou up lo 1) ci_X11_refuse qm_X11_126 ⟨Nat.le_of_ble_eq_true rfl, Nat.le_of_ble_eq_true rfl⟩ ⟨Nat.le_of_ble_eq_true rfl, Nat.le_of_ble_eq_true rfl⟩ [0] [1, 2, 3, 4, 5, 6, 7, 8, 9, 10, 11, 12, 13, 14, 15, 16, 17, 18, 19, 20, 21] rfl rfl rfl rfl rfl (dj rfl) 0 rfl rfl rfl hl.1 rfl (Nat.le_of_ble_eq_true rfl) dX11_years_23 (fun u_27 H locs hφ hP hD hS => ?_)
    refine W.eq (g2 := F0 m 26 ls [.int (iZ (-1))]) rfl ?_
    exact EWi hx hb hr hlocks hS (((-1), tp, ln, pl, en, ki, va, ke, fk, fp, 1, de, th2, ys2, yr2, th, ys, yr), (0, nm), (of0, ywf2, y1f2, y2f2, y3f2, ypf2, ywf, y1f, y2f, y3f, ypf), (), (sv, sv2)) rfl ⟨(show (0 ≤ tp ∧ tp ≤ 900) ∧ (0 ≤ ln ∧ ln ≤ 900) ∧ (0 ≤ pl ∧ pl ≤ en) ∧ (en ≤ ln) ∧ (0 ≤ ki ∧ ki ≤ 4) ∧ (-2147483648 ≤ va ∧ va < 2147483648) ∧ (-1 ≤ ke ∧ ke ≤ 24) from (by first | with_reducible assumption | exact ⟨⟨by omega, by omega⟩, ⟨by omega, by omega⟩, ⟨by omega, by omega⟩, by omega, ⟨by omega, by omega⟩, ⟨by omega, by omega⟩, by omega, by omega⟩)), (show ((0 ≤ x1 ∧ x1 ≤ tp ∧ x1 ≤ 300) ∧ (tp : Int) = 0) ∨ (¬ (0 ≤ x1 ∧ x1 ≤ tp ∧ x1 ≤ 300) ∧ tp = tp) from (by omega)), (show (th = 0 ∨ th = 1) ∧ (0 ≤ ys ∧ ys ≤ 30) ∧ (0 ≤ yr ∧ yr ≤ 60) from ⟨by omega, ⟨by omega, by omega⟩, ⟨by omega, by omega⟩⟩), (show YI ywf y1f y3f ypf n yr from hYI), (show ((0 ≤ x1 ∧ x1 ≤ tp ∧ x1 ≤ 300) ∧ ∃ s9 : YS_, xYrs (tX bf x1) N n = .inr s9 ∧ (YV_ n s9 ∧ s9.2.2.1 = 0) ∧ yCM ywf y1f y2f y3f ypf yr (pOf s9) ∧ th = 1 ∧ (-1) = s9.2.1 ∧ (fk : Int) = 0 ∧ fp = -1) ∨ ((0 ≤ x1 ∧ x1 ≤ tp ∧ x1 ≤ 300) ∧ ∃ e9 : Int × Int, xYrs (tX bf x1) N n = .inl e9 ∧ ((-1) : Int) = -1 ∧ fk = e9.1 ∧ fp = e9.2 ∧ th = th ∧ ys = ys ∧ yr = yr ∧ ywf = ywf ∧ y1f = y1f ∧ y2f = y2f ∧ y3f = y3f ∧ ypf = ypf) ∨ (¬ (0 ≤ x1 ∧ x1 ≤ tp ∧ x1 ≤ 300) ∧ ((-1) : Int) = -1 ∧ fk = fk ∧ fp = fp ∧ th = th ∧ ys = ys ∧ yr = yr ∧ ywf = ywf ∧ y1f = y1f ∧ y2f = y2f ∧ y3f = y3f ∧ ypf = ypf) from (Or.inr (Or.inr ⟨by omega, by omega, by omega, by omega, rfl, rfl, rfl, rfl, rfl, rfl, rfl, rfl⟩)))⟩ (hP.sub [21, 0, 1, 2, 3, 4, 5, 6, 7, 8, 9, 10, 11, 12, 13, 14, 15, 16, 17, 18, 19, 20] rfl) (hD.sub [21, 0, 1, 2, 3, 4, 5, 6, 7, 8, 9, 10, 11, 12, 13, 14, 15, 16, 17, 18, 19, 20] rfl rfl) dX11_years_26
end

section
/-- the names of both sides are the same -/
def NME (n : Int) (nf Nf : Nat → Int64) (c : Int) : Prop := ∃ N : Int → Int, xNs nf N n ∧ xNr Nf c N n
def NMI (i mk n : Int) (nf Nf : Nat → Int64) (c : Int) : Prop := i < mk → NME n nf Nf c
theorem NME.mv {n b c : Int} {nf nf' Nf Mf : Nat → Int64} (h : NME n nf Nf b) (k : ∀ e : Int, 0 ≤ e → e < 6 → Mf (c + e).toNat = Nf (b + e).toNat) (hf : CPL nf' nf 6) (hn : n ≤ 6) : NME n nf' Mf c := by
  obtain ⟨N, h1, h2⟩ := h
  exact ⟨N, fun e p q => by rw [hf e p (by omega)]; exact h1 e p q, fun e p q => by rw [k e p (by omega)]; exact h2 e p q⟩
theorem CPL.rf (f : Nat → Int64) (n : Int) : CPL f f n := fun _ _ _ => rfl
theorem NME.keep {n c : Int} {nf Nf Mf : Nat → Int64} (h : NME n nf Nf c) (k : ∀ e : Int, c ≤ e → e < c + 6 → Mf e.toNat = Nf e.toNat) (hn : n ≤ 6) : NME n nf Mf c := h.mv (fun e p q => k (c + e) (by omega) (by omega)) (CPL.rf nf 6) hn
theorem NME_0 {nf Nf : Nat → Int64} {c : Int} : NME 0 nf Nf c := ⟨fun _ => 0, fun k a b => absurd a (by omega), fun k a b => absurd a (by omega)⟩
theorem NME.mark {n n0 n' mk mk' i c M : Int} {P1 Q1 P2 Q2 : Prop} {nf nf0 nf' Nf Mf : Nat → Int64} (hc : c = 6 * (i + 1)) (hi : 0 ≤ i ∧ i < 3) (old : i < mk → NME n0 nf0 Nf c) (w : NME n nf Nf 0) (cx : (mk = i → (n' = n ∧ P1) ∧ Q1) ∧ (¬ mk = i → (n' = n0 ∧ P2) ∧ Q2)) (cf : (mk = i → CPL nf' nf 6) ∧ (¬ mk = i → nf' = nf0))
    (hq : mk = M) (rf : (M < 3 → (∀ e : Int, 0 ≤ e → e < 6 → Mf (6 * (M + 1) + e).toNat = Nf e.toNat) ∧ ∀ j : Int, 0 ≤ j → (j < 6 * (M + 1) ∨ 6 * (M + 1) + 6 ≤ j) → Mf j.toNat = Nf j.toNat) ∧ (¬ M < 3 → Mf = Nf))
    (hm : (mk = 3 ∧ mk' = 3) ∨ (mk < 3 ∧ mk' = mk + 1)) (h1 : n ≤ 6) (h2 : n0 ≤ 6) : i < mk' → NME n' nf' Mf c := by
  subst hq
  intro h
  by_cases q : mk = i
  · obtain ⟨⟨rfl, -⟩, -⟩ := cx.1 q
    refine w.mv (fun e p r => ?_) (cf.1 q) h1
    have := (rf.1 (by omega)).1 e p r
    rw [show 6 * (mk + 1) = c by rw [hc, q]] at this
    rw [this, show 0 + e = e by omega]
  · obtain ⟨⟨rfl, -⟩, -⟩ := cx.2 q
    rw [cf.2 q]
    have o := old (by omega)
    by_cases m : mk < 3
    · exact o.keep (fun e p r => (rf.1 m).2 e (by omega) (by omega)) h2
    · rw [rf.2 m]; exact o
theorem NME.mark0 {n mk M : Int} {nf Nf Mf : Nat → Int64} (hm : 0 ≤ mk) (w : NME n nf Nf 0)
    (hq : mk = M) (rf : (M < 3 → (∀ e : Int, 0 ≤ e → e < 6 → Mf (6 * (M + 1) + e).toNat = Nf e.toNat) ∧ ∀ j : Int, 0 ≤ j → (j < 6 * (M + 1) ∨ 6 * (M + 1) + 6 ≤ j) → Mf j.toNat = Nf j.toNat) ∧ (¬ M < 3 → Mf = Nf)) (h1 : n ≤ 6) : NME n nf Mf 0 := by
  subst hq
  by_cases m : mk < 3
  · exact w.keep (fun e p r => (rf.1 m).2 e (by omega) (by omega)) h1
  · rw [rf.2 m]; exact w
theorem NME.back {n mk mk' c i M : Int} {nf Nf Mf : Nat → Int64} (hc : c = 6 * (i + 1)) (hi : 0 ≤ i) (old : i < mk → NME n nf Nf c) (hq : mk = M) (rf : (0 < M → (∀ e : Int, 0 ≤ e → e < 6 → Mf e.toNat = Nf (6 * M + e).toNat) ∧ ∀ j : Int, 6 ≤ j → Mf j.toNat = Nf j.toNat) ∧ (¬ 0 < M → Mf = Nf)) (hm : mk' ≤ mk) (h1 : n ≤ 6) : i < mk' → NME n nf Mf c := by
  subst hq
  intro h
  exact (old (by omega)).keep (fun e p r => (rf.1 (by omega)).2 e (by omega)) h1
theorem NME.back0 {n n0 n1 n2 n' mk M : Int} {P0 Q0 P1 Q1 P2 Q2 P3 Q3 : Prop} {nf nf0 nf1 nf2 nf' Nf Mf : Nat → Int64} (hm : 0 ≤ mk ∧ mk ≤ 3) (w : NME n nf Nf 0) (w0 : 0 < mk → NME n0 nf0 Nf 6) (w1 : 1 < mk → NME n1 nf1 Nf 12) (w2 : 2 < mk → NME n2 nf2 Nf 18)
    (c0 : mk = 1 → (n' = n0 ∧ P0) ∧ Q0) (c1 : mk = 2 → (n' = n1 ∧ P1) ∧ Q1) (c2 : mk = 3 → (n' = n2 ∧ P2) ∧ Q2) (cz : mk = 0 → (n' = n ∧ P3) ∧ Q3)
    (d0 : mk = 1 → CPL nf' nf0 6) (d1 : mk = 2 → CPL nf' nf1 6) (d2 : mk = 3 → CPL nf' nf2 6) (dz : mk = 0 → nf' = nf)
    (hq : mk = M) (rf : (0 < M → (∀ e : Int, 0 ≤ e → e < 6 → Mf e.toNat = Nf (6 * M + e).toNat) ∧ ∀ j : Int, 6 ≤ j → Mf j.toNat = Nf j.toNat) ∧ (¬ 0 < M → Mf = Nf)) (h0 : n0 ≤ 6) (h1 : n1 ≤ 6) (h2 : n2 ≤ 6) : NME n' nf' Mf 0 := by
  subst hq
  rcases (show mk = 0 ∨ mk = 1 ∨ mk = 2 ∨ mk = 3 by omega) with q | q | q | q
  · obtain ⟨⟨rfl, -⟩, -⟩ := cz q
    rw [rf.2 (by omega), dz q]; exact w
  · obtain ⟨⟨rfl, -⟩, -⟩ := c0 q
    exact (w0 (by omega)).mv (fun e p r => by have := (rf.1 (by omega)).1 e p r; rw [q, show 6 * (1 : Int) = 6 by decide] at this; rw [show 0 + e = e by omega]; exact this) (d0 q) h0
  · obtain ⟨⟨rfl, -⟩, -⟩ := c1 q
    exact (w1 (by omega)).mv (fun e p r => by have := (rf.1 (by omega)).1 e p r; rw [q, show 6 * (2 : Int) = 12 by decide] at this; rw [show 0 + e = e by omega]; exact this) (d1 q) h1
  · obtain ⟨⟨rfl, -⟩, -⟩ := c2 q
    exact (w2 (by omega)).mv (fun e p r => by have := (rf.1 (by omega)).1 e p r; rw [q, show 6 * (3 : Int) = 18 by decide] at this; rw [show 0 + e = e by omega]; exact this) (d2 q) h2
theorem NME.sky {n n' ni' lw' we' x t u : Int} {X1 X2 Z1 Z2 : Prop} {f' g' : Nat → Int32} {nf nf' Nf Mf : Nat → Int64} {R R' : (Int × Int) ⊕ (Int × XS)} (w : NME n nf Nf 0) (hu : t = u) (hR : (0 ≤ x ∧ x ≤ t) → R = R') (hn : n ≤ 6)
    (cf : ((0 ≤ x ∧ x ≤ t) ∧ ∃ (q9 : Int) (s9 : XS), R = .inr (q9, s9) ∧ SKX s9 n' ni' lw' we' f' g' nf') ∨ ((¬ (0 ≤ x ∧ x ≤ t) ∨ ∃ e9 : Int × Int, R = .inl e9) ∧ (n' = n ∧ X1) ∧ Z1 ∧ Z2 ∧ nf' = nf))
    (rf : (((0 ≤ x ∧ x ≤ u) ∧ ∃ (q9 : Int) (s9 : XS), R' = .inr (q9, s9) ∧ xNr Mf 0 s9.2.2.2.2.2.2.2 s9.1) ∨ ((¬ (0 ≤ x ∧ x ≤ u) ∨ ∃ e9 : Int × Int, R' = .inl e9) ∧ ∀ e : Int, 0 ≤ e → e < 6 → Mf e.toNat = Nf e.toNat)) ∧ X2) : NME n' nf' Mf 0 := by
  subst hu
  rcases cf with ⟨ok, q, s, h1, h2⟩ | ⟨c, ⟨rfl, -⟩, -, -, rfl⟩
  · rcases rf.1 with ⟨-, q2, s2, k1, k2⟩ | ⟨k, -⟩
    · rw [hR ok, k1] at h1
      injection h1 with h3
      injection h3 with h4 h5
      rw [← h5] at h2
      obtain ⟨a1, -, -, -, -, -, aN⟩ := h2
      exact ⟨s2.2.2.2.2.2.2.2, aN, by rw [← a1]; exact k2⟩
    · rcases k with k | ⟨e, k⟩
      · exact absurd ok k
      · rw [hR ok, k] at h1
        exact absurd h1 (by intro h; injection h)
  · rcases rf.1 with ⟨ok, q2, s2, k1, k2⟩ | ⟨-, k⟩
    · rcases c with c | ⟨e, c⟩
      · exact absurd ok c
      · rw [hR ok, k1] at c
        exact absurd c (by intro h; injection h)
    · exact w.keep (fun e p r => k e p (by omega)) hn
theorem ys_two {t u x z z' a b c d a0 b0 c0 d0 : Int} {R R' : (Int × Int) ⊕ YS_} {X1 X2 X5 X6 : YS_ → Prop} {W1 W2 W3 : Prop} (hu : t = u) (hR : (0 ≤ x ∧ x ≤ t ∧ x ≤ 300) → R = R')
    (p : ((0 ≤ x ∧ x ≤ t ∧ x ≤ 300) ∧ ∃ s9 : YS_, R = .inr s9 ∧ X1 s9 ∧ X2 s9 ∧ W1 ∧ z = s9.2.1 ∧ a = 0 ∧ b = -1) ∨ ((0 ≤ x ∧ x ≤ t ∧ x ≤ 300) ∧ ∃ e9 : Int × Int, R = .inl e9 ∧ z = -1 ∧ a = e9.1 ∧ b = e9.2 ∧ W2) ∨ (¬ (0 ≤ x ∧ x ≤ t ∧ x ≤ 300) ∧ z = -1 ∧ a = a0 ∧ b = b0 ∧ W2))
    (q : ((0 ≤ x ∧ x ≤ u ∧ x ≤ 300) ∧ ∃ s9 : YS_, R' = .inr s9 ∧ X5 s9 ∧ X6 s9 ∧ z' = s9.2.1 ∧ c = 0 ∧ d = -1) ∨ ((0 ≤ x ∧ x ≤ u ∧ x ≤ 300) ∧ ∃ e9 : Int × Int, R' = .inl e9 ∧ z' = -1 ∧ c = e9.1 ∧ d = e9.2 ∧ W3) ∨ (¬ (0 ≤ x ∧ x ≤ u ∧ x ≤ 300) ∧ z' = -1 ∧ c = c0 ∧ d = d0 ∧ W3)) : z = z' ∧ (a0 = c0 → b0 = d0 → a = c ∧ b = d) := by
  subst hu
  rcases p with ⟨o, s, h1, -, -, -, h2, h3, h4⟩ | ⟨o, e, h1, h2, h3, h4, -⟩ | ⟨o, h2, h3, h4, -⟩ <;> rcases q with ⟨p, s', k1, -, -, k2, k3, k4⟩ | ⟨p, e', k1, k2, k3, k4, -⟩ | ⟨p, k2, k3, k4, -⟩
  · rw [hR o, k1] at h1
    injection h1 with h1
    rw [h2, k2, h1, h3, h4, k3, k4]
    exact ⟨rfl, fun _ _ => ⟨rfl, rfl⟩⟩
  · rw [hR o, k1] at h1
    exact absurd h1 (by intro h; injection h)
  · exact absurd o p
  · rw [hR o, k1] at h1
    exact absurd h1 (by intro h; injection h)
  · rw [hR o, k1] at h1
    injection h1 with h1
    rw [h2, k2, h3, h4, k3, k4, h1]
    exact ⟨rfl, fun _ _ => ⟨rfl, rfl⟩⟩
  · exact absurd o p
  · exact absurd p o
  · exact absurd p o
  · exact ⟨h2.trans k2.symm, fun e1 e2 => ⟨by rw [h3, k3, e1], by rw [h4, k4, e2]⟩⟩
theorem sf_eq {t u x a b c d a0 b0 c0 d0 : Int} {R R' : (Int × Int) ⊕ (Int × XS)} (hu : t = u) (hR : (0 ≤ x ∧ x ≤ t) → R = R')
    (p : ((0 ≤ x ∧ x ≤ t) ∧ (∃ (q9 : Int) (s9 : XS), R = .inr (q9, s9)) ∧ a = 0 ∧ b = -1) ∨ ((0 ≤ x ∧ x ≤ t) ∧ ∃ e9 : Int × Int, R = .inl e9 ∧ a = e9.1 ∧ b = e9.2) ∨ (¬ (0 ≤ x ∧ x ≤ t) ∧ a = a0 ∧ b = b0))
    (q : ((0 ≤ x ∧ x ≤ u) ∧ (∃ (q9 : Int) (s9 : XS), R' = .inr (q9, s9)) ∧ c = 0 ∧ d = -1) ∨ ((0 ≤ x ∧ x ≤ u) ∧ ∃ e9 : Int × Int, R' = .inl e9 ∧ c = e9.1 ∧ d = e9.2) ∨ (¬ (0 ≤ x ∧ x ≤ u) ∧ c = c0 ∧ d = d0)) (h : a0 = c0 ∧ b0 = d0) : a = c ∧ b = d := by
  subst hu
  rcases p with ⟨o, ⟨y, s, h1⟩, h3, h4⟩ | ⟨o, e, h1, h3, h4⟩ | ⟨o, h3, h4⟩ <;> rcases q with ⟨p, ⟨y', s', k1⟩, k3, k4⟩ | ⟨p, e', k1, k3, k4⟩ | ⟨p, k3, k4⟩
  · exact ⟨h3.trans k3.symm, h4.trans k4.symm⟩
  · rw [hR o, k1] at h1
    exact absurd h1 (by intro h; injection h)
  · exact absurd o p
  · rw [hR o, k1] at h1
    exact absurd h1 (by intro h; injection h)
  · rw [hR o, k1] at h1
    injection h1 with h1
    rw [h3, h4, k3, k4, h1]
    exact ⟨rfl, rfl⟩
  · exact absurd o p
  · exact absurd p o
  · exact absurd p o
  · exact ⟨by rw [h3, k3, h.1], by rw [h4, k4, h.2]⟩
end

section
/-- what was there keeps its size -/
def SS (st t : State) : Prop := ∀ (q : Nat) (c : Cell), st.heap[q]? = some c → ∃ c' : Cell, t.heap[q]? = some c' ∧ c'.slots.size = c.slots.size
theorem Met.ss {l : Launch} {y : MethodName} {ws : List Cond} {rm : Room} {Pc : Array Value → State → Prop} {Qc : Array Value → State → Outcome → State → Prop} {mc ms : Nat} {free : Addr → Prop} (h : Met l y ws rm Pc Qc mc ms free) : Met l y ws rm Pc (fun a st o t => Qc a st o t ∧ SS st t) mc ms free := by
  intro p e ha hc hk s m args below hf happ hp hk'
  obtain ⟨n, o, h1, h2, h3, h4, L, h5, h6⟩ := h p e ha hc hk s m args below hf happ hp hk'
  refine ⟨n, o, h1, h2, h3, ⟨h4, fun q c hq => ?_⟩, L, h5, h6⟩
  obtain ⟨-, -, -, -, -, -, -, h7⟩ := h5
  obtain ⟨c', g1, -, g2, -⟩ := h7 q c hq
  exact ⟨c', g1, g2⟩
section LR
variable {p : Program} {l : Launch} {e : Env} {R : Room} {s : State} {m : MethodId} {args : Array Value} {below : List Frame} {meth : Method} {c : Code} {H : Heap} {locs : List Loc} {pc : Nat} {D : va_G} {A : Nat → Prop} {cc : ByteArray} {ls : Array Slot} {σ : Type} {ry : σ → Ry} {val : σ → Option Value} {φ : σ → Prop} {post : σ → va_W} {k : Nat → ClassId} {r : Ry} {Q : State → Prop}
variable {y : MethodName} {bytes : ByteArray} {maxL nL n index j b ci N c0 s0 : Nat} {ret : Option FieldType} {own : String} {As rest st : List Value} {wc wr ws : va_W} {T : u_T} {fs : List Value}
theorem stand_tight2 {T T' : State} {locs' : List Loc} {c1 s1 : Nat} (X : Stand p l e R s m args below meth c T locs c0 s0) (X' : Stand p l e R s m args below meth c T' locs' c1 s1) (hs : T'.heap.size = T.heap.size) (hq : ∀ (q : Nat) (d : Cell), T.heap[q]? = some d → ∃ d' : Cell, T'.heap[q]? = some d' ∧ d'.slots.size = d.slots.size) : Stand p l e R s m args below meth c T' locs' c0 s0 := by
  obtain ⟨-, -, a3, -, a5, -⟩ := X.same
  obtain ⟨h1, h2, h3, h4, h5, h6⟩ := X'.same
  have a3' : T.heap.size ≤ s.heap.size + c0 := a3
  have e1 : (T'.heap.toList.drop s.heap.size).map (fun d => d.slots.size) = (T.heap.toList.drop s.heap.size).map (fun d => d.slots.size) := by
    apply List.ext_getElem?
    intro i
    rw [List.getElem?_map, List.getElem?_map, List.getElem?_drop, List.getElem?_drop, Array.getElem?_toList, Array.getElem?_toList]
    cases h : T.heap[s.heap.size + i]? with
    | none =>
      have hn : T.heap.size ≤ s.heap.size + i := Array.getElem?_eq_none_iff.mp h
      rw [Array.getElem?_eq_none (by omega)]
    | some d =>
      obtain ⟨d', g1, g2⟩ := hq _ d h
      rw [g1]
      show some d'.slots.size = some d.slots.size
      rw [g2]
  have e2 : (((T'.setVm s.vm).heap.toList.drop s.heap.size).map (fun d => d.slots.size)) = (((T.setVm s.vm).heap.toList.drop s.heap.size).map (fun d => d.slots.size)) := e1
  exact { X' with same := ⟨h1, h2, by show T'.heap.size ≤ s.heap.size + c0; omega, h4, by rw [e2]; exact a5, h6⟩ }
theorem callXL {A0 A1 : Nat → Prop} {a : Array Value} {free : Addr → Prop} {bb : Bool} (hr : va_Run p l e R s m args below meth c H locs (c0 + cz true bb) (s0 + sz true bb) (rcN bb) (rsN bb) (F0 m pc ls st) rest (fun st' o' t' => QX bb ry val φ post D A1 a st' o' t' ∧ SS st' t') free) (hsz : va_S A0 s.heap H locs) (hA : ∀ q, q < H.size → A1 q → A0 q) (hf : ∀ q, free q → A0 q)
    (kk : ∀ (u : σ) (H1 : Heap) (locs1 : List Loc), φ u → va_P D vwCl (post u ++ (ry u).tl) H1 → va_D A1 (post u ++ (ry u).tl) → (∀ q : Nat, q < H.size → ¬ A1 q → H1[q]? = H[q]?) → va_S A0 s.heap H1 locs1 → W p l e R s m args below meth c H1 locs1 (c0 + cz true (ry u).b) (s0 + sz true (ry u).b) Q (F0 m (pc + 3) ls ((val u).toList ++ rest))) : W p l e R s m args below meth c H locs (c0 + cz true bb) (s0 + sz true bb) Q (F0 m pc ls st) := by
  intro T hT X
  obtain ⟨v, st₀, t, T', L, h0, X', hL, e1, e2, ⟨⟨⟨u, hv, hp, hb, hd, hc⟩, hz, hk⟩, hss⟩, st⟩ := hr T hT X
  cases hv
  rw [h0] at hz hk hc
  rw [← e1] at hb
  have X2 : Stand p l e R s m args below meth c T' (locs ++ L) (c0 + cz true (ry u).b) (s0 + sz true (ry u).b) := by
    cases hub : (ry u).b with
    | true =>
      obtain ⟨g1, g2⟩ := hc hub
      subst g1
      refine stand_tight2 X X' (by rw [e1, g2, hT]) (fun q d hq => ?_)
      rw [hT, ← h0] at hq
      obtain ⟨d', q1, q2⟩ := hss q d hq
      exact ⟨d', by rw [e1]; exact q1, q2⟩
    | false =>
      refine stand_widen X' ?_ ?_
      · cases bb with
        | true => show c0 + 0 + 2 ≤ c0 + 2; omega
        | false => show c0 + 2 + 0 ≤ c0 + 2; omega
      · cases bb with
        | true => show s0 + 0 + 28872 ≤ s0 + 28872; omega
        | false => show s0 + 28872 + 0 ≤ s0 + 28872; omega
  obtain ⟨t2, a1, b1⟩ := kk u T'.heap (locs ++ L) hp hb hd (fun q h1 h2 => by rw [e1]; exact hk q h1 h2)
    ⟨Nat.le_trans hsz.1 (by rw [e1]; exact hz), fun q h1 h2 => by rw [e1, hk q (Nat.lt_of_lt_of_le h1 hsz.1) (fun z => h2 (hA q (Nat.lt_of_lt_of_le h1 hsz.1) z))]; exact hsz.2.1 q h1 h2, fun q hq => by
      rcases List.mem_append.mp hq with h | h
      · exact hsz.2.2 q h
      · exact hf _ (hL q h)⟩ T' rfl X2
  exact ⟨t2, st t2 a1, b1⟩
theorem CKSV {cells slots : Nat} {tl : va_W} {sa sv : Nat} (hx : p.tables.exec = Jvm.exec) (hb : c.code = cc) (hml : c.maxLocals = nL) (hown : s.vm.findClass own = some m.cls) (hts : ∀ w ∈ gw, w.before args s = true) (hK : KK D k s) (hP : va_P D vwCl (ws ++ tl) H) (hD : va_D A (ws ++ tl)) (hS : va_S A s.heap H locs) (hA : ∀ q : Nat, s.heap.size ≤ q → A q) (hSY : SY sa sv keyF A s s.heap) (hRR : vk_R RX12 175 keyT sa s) (hM : SD sa sv l y bytes maxL ret j D k (.ref b :: As) wc val φ post) (cI : CIv y bytes maxL ret n) (hlink : Cond.methodLink own index y ∈ gw) (hR : j + 1 ≤ R.frames ∧ 8 + (maxL + 11) + 40 * j ≤ R.locals) (hce : cells ≤ R.cells ∧ slots ≤ R.slots)
    (isC isR : List Nat) (hC : isC.map (fun i => ws[i]?) = wc.map some) (hC2 : isC.filterMap (fun i => ws[i]?) = wc) (hRr : isR.map (fun i => ws[i]?) = wr.map some) (hnC : va_nd isC = true) (hnR : va_nd isR = true) (hdis : ∀ i ∈ isR, i ∉ isC)
    (q0 : Nat) (he : wc[q0]? = some (b, .inr (ci, fs))) (hc : vwCl[ci]? = some (y.cls, T, N)) (hn : As.length = n) (hsz : ls.size = nL) (hst : st = As.reverse ++ .ref b :: rest) (hW : (rest.map fun v => v.category).sum ≤ 8) (hdg : decode cc pc = .ok (.invokevirtual index, 3))
    (kk : ∀ (u : σ) (H1 : Heap) (locs1 : List Loc), φ u → va_P D vwCl ((wr ++ post u) ++ tl) H1 → va_D A ((wr ++ post u) ++ tl) → va_S A s.heap H1 locs1 → W p l e R s m args below meth c H1 locs1 cells slots Q (F0 m (pc + 3) ls ((val u).toList ++ rest))) : W p l e R s m args below meth c H locs cells slots Q (F0 m pc ls st) := by
  have hPc := hP.spl.1.sub isC hC2
  have hDc := hD.spl.1.sub isC hnC hC
  have hFc := va_free hD.spl.1 hS hA isC hC
  have hSc : SY sa sv keyF (va_A wc H.size) s H := (hSY.kept hS.2.1).narrow hFc
  refine callW (va_runV (As := As) (rest := rest) (b := b) ⟨hx, hb, hml, hown, hts⟩ (hM H.size) (cwVx hts cI hlink hR) ⟨PSm.blind, va_recv hK.1 hPc hc he, fun U hU hW => ⟨rfl, by rw [hU], by rw [hU]; exact hPc, hK.warm hW, hDc.weaken (fun _ _ _ _ => trivial), by rw [hU]; exact hSc.moved hW.alike, vk_R.warm hW hRR⟩⟩ rfl hn hsz hst (lv_room hW) hdg hce) hS (fun q _ h => hFc q h) hFc (fun u H1 locs1 hφ hP1 hD1 hk1 hS1 => ?_)
  obtain ⟨g1, g2⟩ := join_keep hP hD isC isR hC hRr hnR hdis hk1 hFc hP1 hD1
  exact kk u H1 locs1 hφ g1 g2 hS1
end LR
end

section
def pick (ws : va_W) (is : List Nat) : va_W := is.filterMap (fun i => ws[i]?)
theorem va_D.sp {A : Nat → Prop} {a b : va_W} (h : va_D A (a ++ b)) : va_D A a ∧ va_D A b ∧ ∀ p ∈ a, ∀ q ∈ b, p.1 ≠ q.1 := by
  obtain ⟨h1, h2, h3⟩ := h.spl
  refine ⟨h1, h2, fun p hp q hq => ?_⟩
  obtain ⟨i, hi⟩ := List.getElem?_of_mem hp
  obtain ⟨j, hj⟩ := List.getElem?_of_mem hq
  exact h3 i j p q hi hj
theorem va_D.ap {A : Nat → Prop} {a b : va_W} (h1 : va_D A a) (h2 : va_D A b) (h : ∀ p ∈ a, ∀ q ∈ b, p.1 ≠ q.1) : va_D A (a ++ b) := va_D.app h1 h2 (fun _ _ p q hp hq => h p (List.mem_of_getElem? hp) q (List.mem_of_getElem? hq))
/-- a world stands and its addresses are apart -/
def PD (D : va_G) (A : Nat → Prop) (ws : va_W) (H : Heap) : Prop := va_P D vwCl ws H ∧ va_D A ws
theorem fmap_some {α β : Type} {f : α → Option β} : ∀ {l : List α} {y : List β}, l.map f = y.map some → l.filterMap f = y
  | [], [], _ => rfl
  | [], _ :: _, h => by cases h
  | a :: l, [], h => by cases h
  | a :: l, b :: y, h => by
    have h1 : f a = some b := (List.cons.inj h).1
    have h2 := fmap_some (List.cons.inj h).2
    rw [List.filterMap_cons, h1, h2]
section PDS
variable {D : va_G} {A : Nat → Prop} {H : Heap} {x y z u v t m m' : va_W}
theorem mem_sw {q : Nat × va_E} (h : q ∈ y ++ (x ++ z)) : q ∈ x ++ (y ++ z) := by
  rcases List.mem_append.mp h with g | g
  · exact List.mem_append_right _ (List.mem_append_left _ g)
  · rcases List.mem_append.mp g with g | g
    · exact List.mem_append_left _ g
    · exact List.mem_append_right _ (List.mem_append_right _ g)
theorem PD.swap (h : PD D A (x ++ (y ++ z)) H) : PD D A (y ++ (x ++ z)) H := by
  obtain ⟨hP, hD⟩ := h
  obtain ⟨dx, d2, c1⟩ := hD.sp
  obtain ⟨dy, dz, c2⟩ := d2.sp
  refine ⟨hP.spl.2.spl.1.app (hP.spl.1.app hP.spl.2.spl.2), va_D.ap dy (va_D.ap dx dz (fun p hp q hq => c1 p hp q (List.mem_append_right _ hq))) (fun p hp q hq => ?_)⟩
  rcases List.mem_append.mp hq with g | g
  · exact fun e => c1 q g p (List.mem_append_left _ hp) e.symm
  · exact c2 p hp q g
theorem PD.cong (h : PD D A (x ++ m) H) (f : PD D A m H → PD D A m' H) (hm : ∀ q ∈ m', q ∈ m) : PD D A (x ++ m') H := by
  obtain ⟨hP, hD⟩ := h
  obtain ⟨dx, dm, c1⟩ := hD.sp
  obtain ⟨g1, g2⟩ := f ⟨hP.spl.2, dm⟩
  exact ⟨hP.spl.1.app g1, va_D.ap dx g2 (fun p hp q hq => c1 p hp q (hm q hq))⟩
theorem PD.mem_eq (h : ∀ q, q ∈ m' → q ∈ m) (q : Nat × va_E) (hq : q ∈ x ++ m') : q ∈ x ++ m := by
  rcases List.mem_append.mp hq with g | g
  · exact List.mem_append_left _ g
  · exact List.mem_append_right _ (h q g)
theorem PD.fr3 (h : PD D A (x ++ (y ++ (z ++ t))) H) : PD D A (z ++ (x ++ (y ++ t))) H := PD.swap (PD.cong h PD.swap (fun _ hq => mem_sw hq))
theorem mem_f3 {q : Nat × va_E} (h : q ∈ z ++ (x ++ (y ++ t))) : q ∈ x ++ (y ++ (z ++ t)) := PD.mem_eq (fun _ g => mem_sw g) q (mem_sw h)
theorem PD.fr4 (h : PD D A (x ++ (y ++ (z ++ (u ++ t)))) H) : PD D A (u ++ (x ++ (y ++ (z ++ t)))) H := PD.swap (PD.cong h PD.fr3 (fun _ hq => mem_f3 hq))
theorem mem_f4 {q : Nat × va_E} (h : q ∈ u ++ (x ++ (y ++ (z ++ t)))) : q ∈ x ++ (y ++ (z ++ (u ++ t))) := PD.mem_eq (fun _ g => mem_f3 g) q (mem_sw h)
theorem PD.fr5 (h : PD D A (x ++ (y ++ (z ++ (u ++ (v ++ t))))) H) : PD D A (v ++ (x ++ (y ++ (z ++ (u ++ t))))) H := PD.swap (PD.cong h PD.fr4 (fun _ hq => mem_f4 hq))
/-- the first part by its places -/
theorem PD.by {is : List Nat} (h : PD D A (x ++ t) H) (hn : va_nd is = true) (hs : is.map (fun i => x[i]?) = y.map some) (hs2 : is.filterMap (fun i => x[i]?) = y) : PD D A (y ++ t) H := ⟨h.1.subT is hs2, h.2.subT is hn hs⟩
theorem PD.by2 {is : List Nat} (h : PD D A (x ++ t) H) (hn : va_nd is = true) (hs : is.map (fun i => x[i]?) = y.map some) : PD D A (y ++ t) H := PD.by h hn hs (fmap_some hs)
/-- where the i-th cell behind a call comes from: what was there, or what the call left -/
def lkk (ws p : va_W) (isR : List Nat) (i : Nat) : Option (Nat × va_E) := match isR[i]? with
  | some j => ws[j]?
  | none => p[i - isR.length]?
theorem lkk_eq {ws p : va_W} {isR : List Nat} (hR : isR.map (fun i => ws[i]?) = (pick ws isR).map some) (i : Nat) : (pick ws isR ++ p)[i]? = lkk ws p isR i := by
  have hl : isR.length = (pick ws isR).length := by
    have := congrArg List.length hR
    rw [List.length_map, List.length_map] at this
    exact this
  unfold lkk
  cases h : isR[i]? with
  | none =>
    have h1 : isR.length ≤ i := List.getElem?_eq_none_iff.mp h
    rw [List.getElem?_append_right (by omega), hl]
  | some j =>
    have h1 : i < isR.length := (List.getElem?_eq_some_iff.mp h).1
    rw [List.getElem?_append_left (by omega)]
    have h2 : (isR.map (fun i => ws[i]?))[i]? = ((pick ws isR).map some)[i]? := by rw [hR]
    rw [List.getElem?_map, List.getElem?_map, h] at h2
    cases g : (pick ws isR)[i]? with
    | none => rw [g] at h2; cases h2
    | some q =>
      rw [g] at h2
      exact (Option.some.inj h2).symm
theorem PD.by3 {ws p : va_W} {isR is : List Nat} (h : PD D A ((pick ws isR ++ p) ++ t) H) (hn : va_nd is = true) (hR : isR.map (fun i => ws[i]?) = (pick ws isR).map some) (hs : is.map (fun i => lkk ws p isR i) = y.map some) : PD D A (y ++ t) H := by
  refine PD.by2 h hn ?_
  rw [← hs]
  exact List.map_congr_left (fun i _ => lkk_eq hR i)
theorem PD.as2 (h : PD D A ((x ++ y) ++ t) H) : PD D A (x ++ (y ++ t)) H := by rw [List.append_assoc] at h; exact h
theorem PD.sa2 (h : PD D A (x ++ (y ++ t)) H) : PD D A ((x ++ y) ++ t) H := by rw [List.append_assoc]; exact h
theorem PD.mid3 (h : PD D A (x ++ (y ++ (z ++ (u ++ t)))) H) : PD D A (x ++ ((y ++ (z ++ u)) ++ t)) H := by rw [List.append_assoc, List.append_assoc]; exact h
theorem PD.mid4 (h : PD D A (x ++ (y ++ (z ++ (u ++ (v ++ t))))) H) : PD D A (x ++ ((y ++ (z ++ (u ++ v))) ++ t)) H := by rw [List.append_assoc, List.append_assoc, List.append_assoc]; exact h
theorem PD.dim3 (h : PD D A (x ++ ((y ++ (z ++ u)) ++ t)) H) : PD D A (x ++ (y ++ (z ++ (u ++ t)))) H := by rw [List.append_assoc, List.append_assoc] at h; exact h
theorem PD.dim4 (h : PD D A (x ++ ((y ++ (z ++ (u ++ v))) ++ t)) H) : PD D A (x ++ (y ++ (z ++ (u ++ (v ++ t))))) H := by rw [List.append_assoc, List.append_assoc, List.append_assoc] at h; exact h
end PDS
theorem join_mid {A0 : Nat → Prop} {D : va_G} {ws mid tl wc wr w0 tl' : va_W} {H H1 : Heap} (hP : va_P D vwCl (mid ++ (ws ++ tl)) H) (hD : va_D A0 (mid ++ (ws ++ tl))) (isC isR : List Nat) (hC : isC.map (fun i => ws[i]?) = wc.map some) (hR : isR.map (fun i => ws[i]?) = wr.map some) (hn : va_nd isR = true) (hdis : ∀ i ∈ isR, i ∉ isC)
    (hk : ∀ q : Nat, q < H.size → ¬ va_A (wc ++ tl) H.size q → H1[q]? = H[q]?) (hF : ∀ q, va_A (wc ++ tl) H.size q → A0 q) (hP1 : va_P D vwCl (w0 ++ tl') H1) (hD1 : va_D (va_A (wc ++ tl) H.size) (w0 ++ tl')) : va_P D vwCl ((wr ++ w0) ++ (mid ++ tl')) H1 ∧ va_D A0 ((wr ++ w0) ++ (mid ++ tl')) := by
  obtain ⟨dm, dw, cr⟩ := hD.sp
  obtain ⟨g1, g2⟩ := join_tail hP.spl.2 dw isC isR hC hR hn hdis hk hF hP1 hD1
  have apart : ∀ p ∈ mid, p.1 < H.size ∧ ¬ va_A (wc ++ tl) H.size p.1 := by
    intro p hp
    obtain ⟨i, hi⟩ := List.getElem?_of_mem hp
    have hl := (hP.spl.1 i p hi).lt
    refine ⟨hl, fun h => ?_⟩
    rcases h with ⟨k2, e, h⟩ | h
    · by_cases hk2 : k2 < wc.length
      · rw [List.getElem?_append_left hk2] at h
        obtain ⟨j, -, h4⟩ := at_of hC k2 (p.1, e) h
        exact cr p hp (p.1, e) (List.mem_append_left _ (List.mem_of_getElem? h4)) rfl
      · rw [List.getElem?_append_right (by omega)] at h
        exact cr p hp (p.1, e) (List.mem_append_right _ (List.mem_of_getElem? h)) rfl
    · omega
  have hPm : va_P D vwCl mid H1 := fun i p hi => (hP.spl.1 i p hi).kept (hk p.1 (apart p (List.mem_of_getElem? hi)).1 (apart p (List.mem_of_getElem? hi)).2)
  have hDm : va_D A0 (mid ++ (wr ++ (w0 ++ tl'))) := va_D.ap dm g2 (fun p hp q hq => by
    rcases List.mem_append.mp hq with g | g
    · obtain ⟨i, hi⟩ := List.getElem?_of_mem g
      obtain ⟨j, -, h4⟩ := at_of hR i q hi
      exact cr p hp q (List.mem_append_left _ (List.mem_of_getElem? h4))
    · obtain ⟨i, hi⟩ := List.getElem?_of_mem g
      have := hD1.2 i q hi
      exact fun e => (apart p hp).2 (by rw [e]; exact this))
  have q1 : PD D A0 (mid ++ ((wr ++ w0) ++ tl')) H1 := by rw [List.append_assoc]; exact ⟨hPm.app g1, hDm⟩
  exact PD.swap q1
section CX2
variable {p : Program} {l : Launch} {e : Env} {R : Room} {s : State} {m : MethodId} {args : Array Value} {below : List Frame} {meth : Method} {c : Code} {H : Heap} {locs : List Loc} {Q : State → Prop} {D : va_G} {k : Nat → ClassId} {A : Nat → Prop} {b0 : Bool} {r : Ry}
variable {y : MethodName} {bytes cc : ByteArray} {maxL nL n index j pc b ci N : Nat} {ret : Option FieldType} {own : String} {As rest st : List Value} {ls : Array Slot} {wc wr ws : va_W} {T : u_T} {fs : List Value} {σ : Type} {ry : σ → Ry} {val : σ → Option Value} {φ : σ → Prop} {post : σ → va_W}
theorem CKV2 {cells slots : Nat} {tl : va_W} (hx : p.tables.exec = Jvm.exec) (hb : c.code = cc) (hml : c.maxLocals = nL) (hown : s.vm.findClass own = some m.cls) (hts : ∀ w ∈ gw, w.before args s = true) (hK : KK D k s) (hP : va_P D vwCl (ws ++ tl) H) (hD : va_D A (ws ++ tl)) (hS : va_S A s.heap H locs) (hA : ∀ q : Nat, s.heap.size ≤ q → A q) (hM : WD l y bytes maxL ret j 0 0 D k (.ref b :: As) wc val φ post) (cI : CIv y bytes maxL ret n) (hlink : Cond.methodLink own index y ∈ gw) (hR : j + 1 ≤ R.frames ∧ 8 + (maxL + 11) + 40 * j ≤ R.locals) (hce : cells ≤ R.cells ∧ slots ≤ R.slots)
    (isC isR : List Nat) (hC : isC.map (fun i => ws[i]?) = wc.map some) (hC2 : isC.filterMap (fun i => ws[i]?) = wc) (hRr : isR.map (fun i => ws[i]?) = (pick ws isR).map some) (hnC : va_nd isC = true) (hnR : va_nd isR = true) (hdis : ∀ i ∈ isR, i ∉ isC)
    (q0 : Nat) (he : wc[q0]? = some (b, .inr (ci, fs))) (hc : vwCl[ci]? = some (y.cls, T, N)) (hn : As.length = n) (hsz : ls.size = nL) (hst : st = As.reverse ++ .ref b :: rest) (hW : (rest.map fun v => v.category).sum ≤ 8) (hdg : decode cc pc = .ok (.invokevirtual index, 3))
    (kk : ∀ (u : σ) (H1 : Heap) (locs1 : List Loc), φ u → va_P D vwCl ((pick ws isR ++ post u) ++ tl) H1 → va_D A ((pick ws isR ++ post u) ++ tl) → va_S A s.heap H1 locs1 → W p l e R s m args below meth c H1 locs1 cells slots Q (F0 m (pc + 3) ls ((val u).toList ++ rest))) : W p l e R s m args below meth c H locs cells slots Q (F0 m pc ls st) :=
  CKV (wr := pick ws isR) hx hb hml hown hts hK hP hD hS hA hM cI hlink hR hce isC isR hC hC2 hRr hnC hnR hdis q0 he hc hn hsz hst hW hdg kk
end CX2
section LR2
variable {p : Program} {l : Launch} {e : Env} {R : Room} {s : State} {m : MethodId} {args : Array Value} {below : List Frame} {meth : Method} {c : Code} {H : Heap} {locs : List Loc} {pc : Nat} {D : va_G} {A : Nat → Prop} {cc : ByteArray} {ls : Array Slot} {σ : Type} {ry : σ → Ry} {val : σ → Option Value} {φ : σ → Prop} {post : σ → va_W} {k : Nat → ClassId} {r : Ry} {Q : State → Prop}
variable {y : MethodName} {bytes : ByteArray} {maxL nL n index j b ci N c0 s0 : Nat} {ret : Option FieldType} {own : String} {As rest st : List Value} {wc wr ws : va_W} {T : u_T} {fs : List Value}
theorem CKSV2 {cells slots : Nat} {tl : va_W} {sa sv : Nat} (hx : p.tables.exec = Jvm.exec) (hb : c.code = cc) (hml : c.maxLocals = nL) (hown : s.vm.findClass own = some m.cls) (hts : ∀ w ∈ gw, w.before args s = true) (hK : KK D k s) (hP : va_P D vwCl (ws ++ tl) H) (hD : va_D A (ws ++ tl)) (hS : va_S A s.heap H locs) (hA : ∀ q : Nat, s.heap.size ≤ q → A q) (hSY : SY sa sv keyF A s s.heap) (hRR : vk_R RX12 175 keyT sa s) (hM : SD sa sv l y bytes maxL ret j D k (.ref b :: As) wc val φ post) (cI : CIv y bytes maxL ret n) (hlink : Cond.methodLink own index y ∈ gw) (hR : j + 1 ≤ R.frames ∧ 8 + (maxL + 11) + 40 * j ≤ R.locals) (hce : cells ≤ R.cells ∧ slots ≤ R.slots)
    (isC isR : List Nat) (hC : isC.map (fun i => ws[i]?) = wc.map some) (hC2 : isC.filterMap (fun i => ws[i]?) = wc) (hRr : isR.map (fun i => ws[i]?) = (pick ws isR).map some) (hnC : va_nd isC = true) (hnR : va_nd isR = true) (hdis : ∀ i ∈ isR, i ∉ isC)
    (q0 : Nat) (he : wc[q0]? = some (b, .inr (ci, fs))) (hc : vwCl[ci]? = some (y.cls, T, N)) (hn : As.length = n) (hsz : ls.size = nL) (hst : st = As.reverse ++ .ref b :: rest) (hW : (rest.map fun v => v.category).sum ≤ 8) (hdg : decode cc pc = .ok (.invokevirtual index, 3))
    (kk : ∀ (u : σ) (H1 : Heap) (locs1 : List Loc), φ u → va_P D vwCl ((pick ws isR ++ post u) ++ tl) H1 → va_D A ((pick ws isR ++ post u) ++ tl) → va_S A s.heap H1 locs1 → W p l e R s m args below meth c H1 locs1 cells slots Q (F0 m (pc + 3) ls ((val u).toList ++ rest))) : W p l e R s m args below meth c H locs cells slots Q (F0 m pc ls st) :=
  CKSV (wr := pick ws isR) hx hb hml hown hts hK hP hD hS hA hSY hRR hM cI hlink hR hce isC isR hC hC2 hRr hnC hnR hdis q0 he hc hn hsz hst hW hdg kk
theorem CXM {mid : va_W} (hx : p.tables.exec = Jvm.exec) (hb : c.code = cc) (hml : c.maxLocals = nL) (hown : s.vm.findClass own = some m.cls) (hts : ∀ w ∈ gw, w.before args s = true) (hK : KK D k s) (hP : va_P D vwCl (ws ++ (mid ++ r.tl)) H) (hD : va_D A (ws ++ (mid ++ r.tl))) (hS : va_S A s.heap H locs) (hA : ∀ q : Nat, s.heap.size ≤ q → A q) (hM : XD l y bytes maxL ret j r D k (.ref b :: As) wc ry val φ post) (cI : CIv y bytes maxL ret n) (hlink : Cond.methodLink own index y ∈ gw) (hR : j + 1 ≤ R.frames ∧ 8 + (maxL + 11) + 40 * j ≤ R.locals) (hce : c0 + 2 ≤ R.cells ∧ s0 + 28872 ≤ R.slots)
    (isC isR : List Nat) (hC : isC.map (fun i => ws[i]?) = wc.map some) (hC2 : isC.filterMap (fun i => ws[i]?) = wc) (hRr : isR.map (fun i => ws[i]?) = (pick ws isR).map some) (hnC : va_nd isC = true) (hnR : va_nd isR = true) (hdis : ∀ i ∈ isR, i ∉ isC)
    (q0 : Nat) (he : wc[q0]? = some (b, .inr (ci, fs))) (hc : vwCl[ci]? = some (y.cls, T, N)) (hn : As.length = n) (hsz : ls.size = nL) (hst : st = As.reverse ++ .ref b :: rest) (hW : (rest.map fun v => v.category).sum ≤ 8) (hdg : decode cc pc = .ok (.invokevirtual index, 3))
    (kk : ∀ (u : σ) (H1 : Heap) (locs1 : List Loc), φ u → va_P D vwCl ((pick ws isR ++ post u) ++ (mid ++ (ry u).tl)) H1 → va_D A ((pick ws isR ++ post u) ++ (mid ++ (ry u).tl)) → va_S A s.heap H1 locs1 → W p l e R s m args below meth c H1 locs1 (c0 + cz true (ry u).b) (s0 + sz true (ry u).b) Q (F0 m (pc + 3) ls ((val u).toList ++ rest))) : W p l e R s m args below meth c H locs (c0 + cz true r.b) (s0 + sz true r.b) Q (F0 m pc ls st) := by
  obtain ⟨hP2, hD2⟩ := PD.swap ⟨hP, hD⟩
  have hPt := hP2.spl.2
  obtain ⟨-, hDt, -⟩ := hD2.sp
  have hPc := hPt.subT isC hC2
  have hDc := hDt.subT isC hnC hC
  have hFc := free_tail hDt hS hA isC hC
  have hce2 : c0 + cz true r.b + rcN r.b ≤ R.cells ∧ s0 + sz true r.b + rsN r.b ≤ R.slots := by
    cases r.b with
    | true => exact ⟨Nat.le_trans (show c0 + 0 + 2 ≤ c0 + 2 by omega) hce.1, Nat.le_trans (show s0 + 0 + 28872 ≤ s0 + 28872 by omega) hce.2⟩
    | false => exact ⟨Nat.le_trans (show c0 + 2 + 0 ≤ c0 + 2 by omega) hce.1, Nat.le_trans (show s0 + 28872 + 0 ≤ s0 + 28872 by omega) hce.2⟩
  refine callXL (va_runV (As := As) (rest := rest) (b := b) ⟨hx, hb, hml, hown, hts⟩ (Met.ss (hM H.size)) (cwVx hts cI hlink hR) ⟨PW.blind, va_recv hK.1 hPc.spl.1 hc he, fun U hU hW => ⟨rfl, by rw [hU], by rw [hU]; exact hPc, hK.warm hW, hDc.weaken (fun _ _ _ _ => trivial)⟩⟩ rfl hn hsz hst (lv_room hW) hdg hce2) hS (fun q _ h => hFc q h) hFc (fun u H1 locs1 hφ hP1 hD1 hk1 hS1 => ?_)
  obtain ⟨g1, g2⟩ := join_mid hP2 hD2 isC isR hC hRr hnR hdis hk1 hFc hP1 hD1
  exact kk u H1 locs1 hφ g1 g2 hS1
end LR2
end
