section
theorem arF_like {f F g G : Nat → Int32} {ni a w b : Int} (h : ∀ e : Int, 0 ≤ e → e < 36 → gz f e = gz F e) (k : ∀ e : Int, 0 ≤ e → e < ni * 4 → gz g e = gz G e) (ha : 0 ≤ a ∧ a < 6) (hb : 0 ≤ b ∧ b < 6) : arF f g ni a w b = arF F G ni a w b := by
  unfold arF
  rw [isIc_like k, cmF_like h ha hb]
theorem snF_like {f F g G : Nat → Int32} {ni r o w : Int} (h : ∀ e : Int, 0 ≤ e → e < 36 → gz f e = gz F e) (k : ∀ e : Int, 0 ≤ e → e < ni * 4 → gz g e = gz G e) (hr : 0 ≤ r ∧ r < 6) (ho : 0 ≤ o ∧ o < 6) : snF f g ni r o w = snF F G ni r o w := by
  unfold snF
  congr 1
  funext z
  unfold isSn
  have e : ∀ u : Int, arF f g ni o u r = arF F G ni o u r := fun u => arF_like h k ho hr
  rw [e z]
  have e2 : (∀ u : Int, z < u → u ≤ w → ¬ arF f g ni o u r ≤ w) = (∀ u : Int, z < u → u ≤ w → ¬ arF F G ni o u r ≤ w) := by
    apply propext
    constructor
    · intro q u p1 p2; rw [← e u]; exact q u p1 p2
    · intro q u p1 p2; rw [e u]; exact q u p1 p2
  rw [e2]
end

section
/-- the class's rows hold YEARS -/
def yCM (w a b c p : Nat → Int32) (yr : Int) (P : PR_) : Prop := yr = P.1 ∧ yRw w P.2.1 P.1 ∧ yRw a P.2.2.1 P.1 ∧ yRw b P.2.2.2.1 P.1 ∧ yRw c P.2.2.2.2.1 P.1 ∧ yRw p P.2.2.2.2.2 P.1
theorem yCM.of {yr ys de : Int} {w a b c p o w' a' b' c' p' : Nat → Int32} {W A B C P O : Int → Int} (h : YSY yr de w a b c p o W A B C P O) (h1 : CPY w' w yr) (h2 : CPY a' a yr) (h3 : CPY b' b yr) (h4 : CPY c' c yr) (h5 : CPY p' p yr) : yCM w' a' b' c' p' yr (pOf (yr, ys, 0, W, A, B, C, P, O)) := by
  obtain ⟨jW, jA, jB, jC, jP, -⟩ := h
  exact ⟨rfl, yRw_c jW h1, yRw_c jA h2, yRw_c jB h3, yRw_c jC h4, yRw_c jP h5⟩
theorem yCM.cpy {yr yr' : Int} {P : PR_} {w a b c p w' a' b' c' p' : Nat → Int32} (h : yCM w a b c p yr P) (e : yr' = yr) (h1 : CPY w' w yr) (h2 : CPY a' a yr) (h3 : CPY b' b yr) (h4 : CPY c' c yr) (h5 : CPY p' p yr) : yCM w' a' b' c' p' yr' P := by
  obtain ⟨h0, jW, jA, jB, jC, jP⟩ := h
  subst h0
  exact ⟨e, yRw_c jW h1, yRw_c jA h2, yRw_c jB h3, yRw_c jC h4, yRw_c jP h5⟩
end

section
set_option maxHeartbeats 4000000 in
set_option maxRecDepth 100000 in
theorem x_years (l : Launch) (D : va_G) (k : Nat → ClassId) (hx1 : Nat) (ta : Nat) (hw1 : Nat) (hw12 : Nat) (ka : Nat) (hr1 : Nat) (hq : Nat) (hv : Nat) (h : Nat) (hn1 : Nat) (hL : Nat) (li : Nat) (ev : Int) (mk : Int) (ou : Int) (up : Int64) (lo : Int64) (tx : Nat) (kw : Nat) (hs : Nat) (hN : Nat) (hf : Nat) (hg : Nat) (hc : Nat) (oo : Nat) (hs2 : Nat) (hc2 : Nat) (sv : Value) (sv2 : Value) (de : Int) (n : Int) (ni : Int) (lw : Int) (we : Int) (nf : Nat → Int64) (of0 : Nat → Int32) (tp : Int) (ln : Int) (pl : Int) (en : Int) (ki : Int) (va : Int) (ke : Int) (fk : Int) (fp : Int) (nm : Int64) (bf : Nat → Int32) (kwf : Nat → Int64) (hy : Nat) (yw : Nat) (y1 : Nat) (y2 : Nat) (y3 : Nat) (yp : Nat) (th : Int) (ys : Int) (yr : Int) (ywf : Nat → Int32) (y1f : Nat → Int32) (y2f : Nat → Int32) (y3f : Nat → Int32) (ypf : Nat → Int32) (hy2 : Nat) (yw2 : Nat) (y12 : Nat) (y22 : Nat) (y32 : Nat) (yp2 : Nat) (th2 : Int) (ys2 : Int) (yr2 : Int) (ywf2 : Nat → Int32) (y1f2 : Nat → Int32) (y2f2 : Nat → Int32) (y3f2 : Nat → Int32) (ypf2 : Nat → Int32) (x1 : Int) (N : Int → Int) (hI1 : (0 ≤ tp ∧ tp ≤ 900) ∧ (0 ≤ ln ∧ ln ≤ 900) ∧ (0 ≤ pl ∧ pl ≤ en) ∧ (en ≤ ln) ∧ (0 ≤ ki ∧ ki ≤ 4) ∧ (-2147483648 ≤ va ∧ va < 2147483648) ∧ (-1 ≤ ke ∧ ke ≤ 24)) (hn : 0 ≤ n ∧ n ≤ 6) (hth : th = 0 ∨ th = 1) (hys : 0 ≤ ys ∧ ys ≤ 30) (hyr : 0 ≤ yr ∧ yr ≤ 60) (hYI : YI ywf y1f y3f ypf n yr) (h9x1 : -2147483648 ≤ x1 ∧ x1 < 2147483648) (hbf : rgI bf (-128) 127 900) (hkw : ∀ j : Nat, j < 25 → kwf j = lZ (kwC j)) (hns : xNs nf N n) : WD (σ := ((Int × Int × Int × Int × Int × Int × Int × Int × Int × Int × Int × Int × Int × Int × Int × Int × Int × Int) × (Int64 × Int64) × ((Nat → Int32) × (Nat → Int32) × (Nat → Int32) × (Nat → Int32) × (Nat → Int32) × (Nat → Int32) × (Nat → Int32) × (Nat → Int32) × (Nat → Int32) × (Nat → Int32) × (Nat → Int32)) × (Unit) × (Value × Value))) l yX11_years cX11_years 3 (some .int) 7 0 0 D k [.ref hx1, .int (iZ x1)] [(hx1, .inr (11, [.ref ta, .ref hw1, .ref hw12, .ref ka, .ref hr1, .ref hq, .ref hv, .ref h, .ref hn1, .ref hL, .ref li, .int (iZ ev), .int (iZ mk), .int (iZ ou), .long up, .long lo])), (hv, .inr (10, [.ref hr1, .ref oo, .int (iZ de), sv, sv2])), (oo, .inl (k 1, 3, .inl of0)), (hr1, .inr (4, [.ref tx, .ref kw, .int (iZ tp), .int (iZ ln), .int (iZ pl), .int (iZ en), .int (iZ ki), .int (iZ va), .int (iZ ke), .long nm, .int (iZ fk), .int (iZ fp)])), (tx, .inl (k 0, 900, .inl bf)), (kw, .inl (k 2, 25, .inr (.inl kwf))), (hw12, .inr (8, [.ref hs2, .ref hc2, .ref hy2])), (hy2, .inr (9, [.ref yw2, .ref y12, .ref y22, .ref y32, .ref yp2, .int (iZ th2), .int (iZ ys2), .int (iZ yr2)])), (yw2, .inl (k 1, 60, .inl ywf2)), (y12, .inl (k 1, 60, .inl y1f2)), (y22, .inl (k 1, 60, .inl y2f2)), (y32, .inl (k 1, 60, .inl y3f2)), (yp2, .inl (k 1, 60, .inl ypf2)), (hw1, .inr (8, [.ref hs, .ref hc, .ref hy])), (hy, .inr (9, [.ref yw, .ref y1, .ref y2, .ref y3, .ref yp, .int (iZ th), .int (iZ ys), .int (iZ yr)])), (yw, .inl (k 1, 60, .inl ywf)), (y1, .inl (k 1, 60, .inl y1f)), (y2, .inl (k 1, 60, .inl y2f)), (y3, .inl (k 1, 60, .inl y3f)), (yp, .inl (k 1, 60, .inl ypf)), (hs, .inr (5, [.ref hN, .ref hf, .ref hg, .int (iZ n), .int (iZ ni), .int (iZ lw), .int (iZ we)])), (hN, .inl (k 2, 6, .inr (.inl nf)))] (fun u => some (.int (iZ u.1.1))) (fun u => ((0 ≤ u.1.2.1 ∧ u.1.2.1 ≤ 900) ∧ (0 ≤ u.1.2.2.1 ∧ u.1.2.2.1 ≤ 900) ∧ (0 ≤ u.1.2.2.2.1 ∧ u.1.2.2.2.1 ≤ u.1.2.2.2.2.1) ∧ (u.1.2.2.2.2.1 ≤ u.1.2.2.1) ∧ (0 ≤ u.1.2.2.2.2.2.1 ∧ u.1.2.2.2.2.2.1 ≤ 4) ∧ (-2147483648 ≤ u.1.2.2.2.2.2.2.1 ∧ u.1.2.2.2.2.2.2.1 < 2147483648) ∧ (-1 ≤ u.1.2.2.2.2.2.2.2.1 ∧ u.1.2.2.2.2.2.2.2.1 ≤ 24)) ∧ (((0 ≤ x1 ∧ x1 ≤ tp ∧ x1 ≤ 300) ∧ (u.1.2.1 : Int) = 0) ∨ (¬ (0 ≤ x1 ∧ x1 ≤ tp ∧ x1 ≤ 300) ∧ u.1.2.1 = tp)) ∧ ((u.1.2.2.2.2.2.2.2.2.2.2.2.2.2.2.2.1 = 0 ∨ u.1.2.2.2.2.2.2.2.2.2.2.2.2.2.2.2.1 = 1) ∧ (0 ≤ u.1.2.2.2.2.2.2.2.2.2.2.2.2.2.2.2.2.1 ∧ u.1.2.2.2.2.2.2.2.2.2.2.2.2.2.2.2.2.1 ≤ 30) ∧ (0 ≤ u.1.2.2.2.2.2.2.2.2.2.2.2.2.2.2.2.2.2 ∧ u.1.2.2.2.2.2.2.2.2.2.2.2.2.2.2.2.2.2 ≤ 60)) ∧ (YI u.2.2.1.2.2.2.2.2.2.1 u.2.2.1.2.2.2.2.2.2.2.1 u.2.2.1.2.2.2.2.2.2.2.2.2.1 u.2.2.1.2.2.2.2.2.2.2.2.2.2 n u.1.2.2.2.2.2.2.2.2.2.2.2.2.2.2.2.2.2) ∧ (((0 ≤ x1 ∧ x1 ≤ tp ∧ x1 ≤ 300) ∧ ∃ s9 : YS_, xYrs (tX bf x1) N n = .inr s9 ∧ (YV_ n s9 ∧ s9.2.2.1 = 0) ∧ yCM u.2.2.1.2.2.2.2.2.2.1 u.2.2.1.2.2.2.2.2.2.2.1 u.2.2.1.2.2.2.2.2.2.2.2.1 u.2.2.1.2.2.2.2.2.2.2.2.2.1 u.2.2.1.2.2.2.2.2.2.2.2.2.2 u.1.2.2.2.2.2.2.2.2.2.2.2.2.2.2.2.2.2 (pOf s9) ∧ u.1.2.2.2.2.2.2.2.2.2.2.2.2.2.2.2.1 = 1 ∧ u.1.1 = s9.2.1 ∧ (u.1.2.2.2.2.2.2.2.2.1 : Int) = 0 ∧ u.1.2.2.2.2.2.2.2.2.2.1 = -1) ∨ ((0 ≤ x1 ∧ x1 ≤ tp ∧ x1 ≤ 300) ∧ ∃ e9 : Int × Int, xYrs (tX bf x1) N n = .inl e9 ∧ (u.1.1 : Int) = -1 ∧ u.1.2.2.2.2.2.2.2.2.1 = e9.1 ∧ u.1.2.2.2.2.2.2.2.2.2.1 = e9.2 ∧ u.1.2.2.2.2.2.2.2.2.2.2.2.2.2.2.2.1 = th ∧ u.1.2.2.2.2.2.2.2.2.2.2.2.2.2.2.2.2.1 = ys ∧ u.1.2.2.2.2.2.2.2.2.2.2.2.2.2.2.2.2.2 = yr ∧ u.2.2.1.2.2.2.2.2.2.1 = ywf ∧ u.2.2.1.2.2.2.2.2.2.2.1 = y1f ∧ u.2.2.1.2.2.2.2.2.2.2.2.1 = y2f ∧ u.2.2.1.2.2.2.2.2.2.2.2.2.1 = y3f ∧ u.2.2.1.2.2.2.2.2.2.2.2.2.2 = ypf) ∨ (¬ (0 ≤ x1 ∧ x1 ≤ tp ∧ x1 ≤ 300) ∧ (u.1.1 : Int) = -1 ∧ u.1.2.2.2.2.2.2.2.2.1 = fk ∧ u.1.2.2.2.2.2.2.2.2.2.1 = fp ∧ u.1.2.2.2.2.2.2.2.2.2.2.2.2.2.2.2.1 = th ∧ u.1.2.2.2.2.2.2.2.2.2.2.2.2.2.2.2.2.1 = ys ∧ u.1.2.2.2.2.2.2.2.2.2.2.2.2.2.2.2.2.2 = yr ∧ u.2.2.1.2.2.2.2.2.2.1 = ywf ∧ u.2.2.1.2.2.2.2.2.2.2.1 = y1f ∧ u.2.2.1.2.2.2.2.2.2.2.2.1 = y2f ∧ u.2.2.1.2.2.2.2.2.2.2.2.2.1 = y3f ∧ u.2.2.1.2.2.2.2.2.2.2.2.2.2 = ypf))) (fun u => [(hx1, .inr (11, [.ref ta, .ref hw1, .ref hw12, .ref ka, .ref hr1, .ref hq, .ref hv, .ref h, .ref hn1, .ref hL, .ref li, .int (iZ ev), .int (iZ mk), .int (iZ u.1.2.2.2.2.2.2.2.2.2.2.1), .long up, .long lo])), (hv, .inr (10, [.ref hr1, .ref oo, .int (iZ u.1.2.2.2.2.2.2.2.2.2.2.2.1), u.2.2.2.2.1, u.2.2.2.2.2])), (oo, .inl (k 1, 3, .inl u.2.2.1.1)), (hr1, .inr (4, [.ref tx, .ref kw, .int (iZ u.1.2.1), .int (iZ u.1.2.2.1), .int (iZ u.1.2.2.2.1), .int (iZ u.1.2.2.2.2.1), .int (iZ u.1.2.2.2.2.2.1), .int (iZ u.1.2.2.2.2.2.2.1), .int (iZ u.1.2.2.2.2.2.2.2.1), .long u.2.1.2, .int (iZ u.1.2.2.2.2.2.2.2.2.1), .int (iZ u.1.2.2.2.2.2.2.2.2.2.1)])), (tx, .inl (k 0, 900, .inl bf)), (kw, .inl (k 2, 25, .inr (.inl kwf))), (hw12, .inr (8, [.ref hs2, .ref hc2, .ref hy2])), (hy2, .inr (9, [.ref yw2, .ref y12, .ref y22, .ref y32, .ref yp2, .int (iZ u.1.2.2.2.2.2.2.2.2.2.2.2.2.1), .int (iZ u.1.2.2.2.2.2.2.2.2.2.2.2.2.2.1), .int (iZ u.1.2.2.2.2.2.2.2.2.2.2.2.2.2.2.1)])), (yw2, .inl (k 1, 60, .inl u.2.2.1.2.1)), (y12, .inl (k 1, 60, .inl u.2.2.1.2.2.1)), (y22, .inl (k 1, 60, .inl u.2.2.1.2.2.2.1)), (y32, .inl (k 1, 60, .inl u.2.2.1.2.2.2.2.1)), (yp2, .inl (k 1, 60, .inl u.2.2.1.2.2.2.2.2.1)), (hw1, .inr (8, [.ref hs, .ref hc, .ref hy])), (hy, .inr (9, [.ref yw, .ref y1, .ref y2, .ref y3, .ref yp, .int (iZ u.1.2.2.2.2.2.2.2.2.2.2.2.2.2.2.2.1), .int (iZ u.1.2.2.2.2.2.2.2.2.2.2.2.2.2.2.2.2.1), .int (iZ u.1.2.2.2.2.2.2.2.2.2.2.2.2.2.2.2.2.2)])), (yw, .inl (k 1, 60, .inl u.2.2.1.2.2.2.2.2.2.1)), (y1, .inl (k 1, 60, .inl u.2.2.1.2.2.2.2.2.2.2.1)), (y2, .inl (k 1, 60, .inl u.2.2.1.2.2.2.2.2.2.2.2.1)), (y3, .inl (k 1, 60, .inl u.2.2.1.2.2.2.2.2.2.2.2.2.1)), (yp, .inl (k 1, 60, .inl u.2.2.1.2.2.2.2.2.2.2.2.2.2)), (hs, .inr (5, [.ref hN, .ref hf, .ref hg, .int (iZ n), .int (iZ ni), .int (iZ lw), .int (iZ we)])), (hN, .inl (k 2, 6, .inr (.inl nf)))]) := by
  refine MW (by decide) (Nat.le_of_ble_eq_true rfl) (fun p e s m below meth c ls A hx hb hml hr hlocks hin hts hown hKK hP hD hS hA hl => ?_)
  have hK := hKK.1
  have hl : lv_has ls 3 [(0, .ref hx1), (1, .int (iZ x1))] := hl
  refine lv_iload_n hx hb dX11_years_0 rfl (lv_at hl 1 rfl) ?_
  refine lv_aload_n hx hb dX11_years_1 rfl (lv_at hl 0 rfl) ?_
  refine va_get (D := D) (ci := 11) (v := .ref hr1) (C := RX11) (T := TX11) (N := 16) hx hb hts iX11 hown hK hP 0 rfl rfl 4 (bl rfl) (hts _ qf_X11_32) (fun _ h => h) rfl dX11_years_2 ?_
  refine va_get (D := D) (ci := 4) (v := .int (iZ tp)) (C := RX4) (T := TX4) (N := 12) hx hb hts iX4 hown hK hP 3 rfl rfl 2 (bl rfl) (hts _ qf_X11_149) (fun _ h => h) rfl dX11_years_5 ?_
  refine CPS (As := [.int (iZ x1), .int (iZ tp)]) (rest := []) hx hb hml hown hts hKK (hP.sub (ws' := []) [] rfl) (k_isWithin l D k x1 tp ⟨by omega, by omega⟩ ⟨by omega, by omega⟩) ci_X11_isWithin qm_X11_103 ⟨Nat.le_of_ble_eq_true rfl, Nat.le_of_ble_eq_true rfl⟩ ⟨Nat.le_of_ble_eq_true rfl, Nat.le_of_ble_eq_true rfl⟩ rfl hl.1 rfl (Nat.le_of_ble_eq_true rfl) dX11_years_8 (fun z_1 hz_1 => ?_)
  rcases hz_1 with ⟨qz_1, hz_1⟩ | ⟨qz_1, hz_1⟩
  ·
    subst qz_1
    refine lv_if_eq (tgt := 21) hx hb dX11_years_11 rfl (fun c => absurd c (by decide)) (fun _ => ?_)
    refine lv_iload_n hx hb dX11_years_14 rfl (lv_at hl 1 rfl) ?_
    refine lv_sipush (v := iZ 300) hx hb dX11_years_15 sip_300 ?_
    refine lv_icmp_le (tgt := 27) hx hb dX11_years_18 rfl (fun c_3 => ?_) (fun c_3 => ?_)
    ·
      have c_3 := (zle (x := iZ x1) (y := iZ 300) rfl rfl ⟨by omega, by omega⟩ wn_300).mp c_3
      refine lv_aload_n hx hb dX11_years_27 rfl (lv_at hl 0 rfl) ?_
      refine va_get (D := D) (ci := 11) (v := .ref hr1) (C := RX11) (T := TX11) (N := 16) hx hb hts iX11 hown hK hP 0 rfl rfl 4 (bl rfl) (hts _ qf_X11_32) (fun _ h => h) rfl dX11_years_28 ?_
      refine lv_iload_n hx hb dX11_years_31 rfl (lv_at hl 1 rfl) ?_
      refine CWV (As := [.int (iZ x1)]) (rest := []) (wc := _) (wr := [(hx1, .inr (11, [.ref ta, .ref hw1, .ref hw12, .ref ka, .ref hr1, .ref hq, .ref hv, .ref h, .ref hn1, .ref hL, .ref li, .int (iZ ev), .int (iZ mk), .int (iZ ou), .long up, .long lo])), (hv, .inr (10, [.ref hr1, .ref oo, .int (iZ de), sv, sv2])), (oo, .inl (k 1, 3, .inl of0)), (hw12, .inr (8, [.ref hs2, .ref hc2, .ref hy2])), (hy2, .inr (9, [.ref yw2, .ref y12, .ref y22, .ref y32, .ref yp2, .int (iZ th2), .int (iZ ys2), .int (iZ yr2)])), (yw2, .inl (k 1, 60, .inl ywf2)), (y12, .inl (k 1, 60, .inl y1f2)), (y22, .inl (k 1, 60, .inl y2f2)), (y32, .inl (k 1, 60, .inl y3f2)), (yp2, .inl (k 1, 60, .inl ypf2)), (hw1, .inr (8, [.ref hs, .ref hc, .ref hy])), (hy, .inr (9, [.ref yw, .ref y1, .ref y2, .ref y3, .ref yp, .int (iZ th), .int (iZ ys), .int (iZ yr)])), (yw, .inl (k 1, 60, .inl ywf)), (y1, .inl (k 1, 60, .inl y1f)), (y2, .inl (k 1, 60, .inl y2f)), (y3, .inl (k 1, 60, .inl y3f)), (yp, .inl (k 1, 60, .inl ypf)), (hs, .inr (5, [.ref hN, .ref hf, .ref hg, .int (iZ n), .int (iZ ni), .int (iZ lw), .int (iZ we)])), (hN, .inl (k 2, 6, .inr (.inl nf)))]) hx hb hml hown hts hKK hP hD hS hA (x_open l D k hr1 tx kw tp ln pl en ki va ke fk fp nm bf kwf x1 ⟨by omega, by omega⟩ hbf hkw) ci_X4_open qm_X11_156 ⟨Nat.le_of_ble_eq_true rfl, Nat.le_of_ble_eq_true rfl⟩ ⟨Nat.le_of_ble_eq_true rfl, Nat.le_of_ble_eq_true rfl⟩ [3, 4, 5] [0, 1, 2, 6, 7, 8, 9, 10, 11, 12, 13, 14, 15, 16, 17, 18, 19, 20, 21] rfl rfl rfl rfl rfl (dj rfl) 0 rfl rfl rfl hl.1 rfl (Nat.le_of_ble_eq_true rfl) dX11_years_32 (fun u_4 H locs hφ hP hD hS => ?_)
      obtain ⟨p_5, p_6, p_7⟩ : (RDX (tX bf u_4.1.2.2.1) 0 u_4.1.2.2.2.1 u_4.1.2.2.2.2.1 u_4.1.2.2.2.2.2.1 u_4.1.2.2.2.2.2.2.1 u_4.1.2.2.2.2.2.2.2.1 u_4.2.1.2) ∧ ((0 ≤ u_4.1.2.1 ∧ u_4.1.2.1 ≤ 900) ∧ (0 ≤ u_4.1.2.2.1 ∧ u_4.1.2.2.1 ≤ 900) ∧ (0 ≤ u_4.1.2.2.2.1 ∧ u_4.1.2.2.2.1 ≤ u_4.1.2.2.2.2.1) ∧ (u_4.1.2.2.2.2.1 ≤ u_4.1.2.2.1) ∧ (0 ≤ u_4.1.2.2.2.2.2.1 ∧ u_4.1.2.2.2.2.2.1 ≤ 4) ∧ (-2147483648 ≤ u_4.1.2.2.2.2.2.2.1 ∧ u_4.1.2.2.2.2.2.2.1 < 2147483648) ∧ (-1 ≤ u_4.1.2.2.2.2.2.2.2.1 ∧ u_4.1.2.2.2.2.2.2.2.1 ≤ 24)) ∧ ((u_4.1.2.1 : Int) = 0 ∧ u_4.1.2.2.1 = x1 ∧ (u_4.1.2.2.2.2.2.2.2.2.1 : Int) = 0 ∧ u_4.1.2.2.2.2.2.2.2.2.2 = -1) := hφ
      obtain ⟨⟨ar_8, br_8⟩, cr_8, dr_8, er_8, fr_8, gr_8, hr_8⟩ := id p_5
      refine W.eq (g2 := F0 m 35 ls []) rfl ?_
      refine lv_aload_n hx hb dX11_years_35 rfl (lv_at hl 0 rfl) ?_
      refine va_get (D := D) (ci := 11) (v := .ref hv) (C := RX11) (T := TX11) (N := 16) hx hb hts iX11 hown hK hP 0 rfl rfl 6 (bl rfl) (hts _ qf_X11_48) (fun _ h => h) rfl dX11_years_36 ?_
      refine lv_aload_n hx hb dX11_years_39 rfl (lv_at hl 0 rfl) ?_
      refine va_get (D := D) (ci := 11) (v := .ref hw12) (C := RX11) (T := TX11) (N := 16) hx hb hts iX11 hown hK hP 0 rfl rfl 2 (bl rfl) (hts _ qf_X11_22) (fun _ h => h) rfl dX11_years_40 ?_
      refine va_get (D := D) (ci := 8) (v := .ref hy2) (C := RX8) (T := TX8) (N := 3) hx hb hts iX8 hown hK hP 3 rfl rfl 2 (bl rfl) (hts _ qf_X11_177) (fun _ h => h) rfl dX11_years_43 ?_
      refine lv_aload_n hx hb dX11_years_46 rfl (lv_at hl 0 rfl) ?_
      refine va_get (D := D) (ci := 11) (v := .ref hw1) (C := RX11) (T := TX11) (N := 16) hx hb hts iX11 hown hK hP 0 rfl rfl 1 (bl rfl) (hts _ qf_X11_18) (fun _ h => h) rfl dX11_years_47 ?_
      refine va_get (D := D) (ci := 8) (v := .ref hs) (C := RX8) (T := TX8) (N := 3) hx hb hts iX8 hown hK hP 10 rfl rfl 0 (bl rfl) (hts _ qf_X11_54) (fun _ h => h) rfl dX11_years_50 ?_
      refine CWV (As := [.ref hy2, .ref hs]) (rest := []) (wc := _) (wr := [(hx1, .inr (11, [.ref ta, .ref hw1, .ref hw12, .ref ka, .ref hr1, .ref hq, .ref hv, .ref h, .ref hn1, .ref hL, .ref li, .int (iZ ev), .int (iZ mk), .int (iZ ou), .long up, .long lo])), (hw12, .inr (8, [.ref hs2, .ref hc2, .ref hy2])), (hw1, .inr (8, [.ref hs, .ref hc, .ref hy])), (hy, .inr (9, [.ref yw, .ref y1, .ref y2, .ref y3, .ref yp, .int (iZ th), .int (iZ ys), .int (iZ yr)])), (yw, .inl (k 1, 60, .inl ywf)), (y1, .inl (k 1, 60, .inl y1f)), (y2, .inl (k 1, 60, .inl y2f)), (y3, .inl (k 1, 60, .inl y3f)), (yp, .inl (k 1, 60, .inl ypf))]) hx hb hml hown hts hKK hP hD hS hA (x_yreadInto l D k hv oo hr1 tx kw hs hN hf hg de of0 u_4.1.2.1 u_4.1.2.2.1 u_4.1.2.2.2.1 u_4.1.2.2.2.2.1 u_4.1.2.2.2.2.2.1 u_4.1.2.2.2.2.2.2.1 u_4.1.2.2.2.2.2.2.2.1 u_4.1.2.2.2.2.2.2.2.2.1 u_4.1.2.2.2.2.2.2.2.2.2 u_4.2.1.2 bf kwf hy2 yw2 y12 y22 y32 yp2 th2 ys2 yr2 ywf2 y1f2 y2f2 y3f2 ypf2 n ni lw we nf sv sv2 0 N (by first | with_reducible assumption | exact ⟨⟨by omega, by omega⟩, ⟨by omega, by omega⟩, ⟨by omega, by omega⟩, by omega, ⟨by omega, by omega⟩, ⟨by omega, by omega⟩, by omega, by omega⟩) hbf hkw p_5 ⟨by omega, by omega⟩ hns (by omega) (by omega)) ci_X10_readInto qm_X11_181 ⟨Nat.le_of_ble_eq_true rfl, Nat.le_of_ble_eq_true rfl⟩ ⟨Nat.le_of_ble_eq_true rfl, Nat.le_of_ble_eq_true rfl⟩ [1, 2, 19, 20, 21, 4, 5, 6, 7, 8, 9, 17, 18] [0, 3, 10, 11, 12, 13, 14, 15, 16] rfl rfl rfl rfl rfl (dj rfl) 0 rfl rfl rfl hl.1 rfl (Nat.le_of_ble_eq_true rfl) dX11_years_53 (fun u_9 H locs hφ hP hD hS => ?_)
      obtain ⟨p_10, p_11, p_12, p_13⟩ : ((0 ≤ u_4.1.2.1 ∧ u_4.1.2.1 ≤ 900) ∧ (0 ≤ u_4.1.2.2.1 ∧ u_4.1.2.2.1 ≤ 900) ∧ (0 ≤ u_9.1.2.1 ∧ u_9.1.2.1 ≤ u_9.1.2.2.1) ∧ (u_9.1.2.2.1 ≤ u_4.1.2.2.1) ∧ (0 ≤ u_9.1.2.2.2.1 ∧ u_9.1.2.2.2.1 ≤ 4) ∧ (-2147483648 ≤ u_9.1.2.2.2.2.1 ∧ u_9.1.2.2.2.2.1 < 2147483648) ∧ (-1 ≤ u_9.1.2.2.2.2.2.1 ∧ u_9.1.2.2.2.2.2.1 ≤ 24)) ∧ (u_9.1.1 = 0 ∨ u_9.1.1 = 1) ∧ (u_9.1.2.2.2.2.2.2.2.2.1 = u_9.1.1) ∧ (((u_9.1.1 : Int) = 1 ∧ ∃ W9 A9 B9 C9 P9 O9 : Int → Int, xYrs (tX bf u_4.1.2.2.1) N n = .inr (u_9.1.2.2.2.2.2.2.2.2.2.2.2, u_9.1.2.2.2.2.2.2.2.2.2.2.1, 0, W9, A9, B9, C9, P9, O9) ∧ YSY u_9.1.2.2.2.2.2.2.2.2.2.2.2 0 u_9.2.2.1.2.1 u_9.2.2.1.2.2.1 u_9.2.2.1.2.2.2.1 u_9.2.2.1.2.2.2.2.1 u_9.2.2.1.2.2.2.2.2 u_9.2.2.1.1 W9 A9 B9 C9 P9 O9 ∧ YV_ n (u_9.1.2.2.2.2.2.2.2.2.2.2.2, u_9.1.2.2.2.2.2.2.2.2.2.2.1, 0, W9, A9, B9, C9, P9, O9) ∧ u_9.1.2.2.2.2.2.2.1 = u_4.1.2.2.2.2.2.2.2.2.1 ∧ u_9.1.2.2.2.2.2.2.2.1 = u_4.1.2.2.2.2.2.2.2.2.2) ∨ ((u_9.1.1 : Int) = 0 ∧ xYrs (tX bf u_4.1.2.2.1) N n = .inl (u_9.1.2.2.2.2.2.2.1, u_9.1.2.2.2.2.2.2.2.1))) := hφ
      refine W.eq (g2 := F0 m 56 ls [.int (iZ u_9.1.1)]) rfl ?_
      rcases p_13 with ⟨qt_14, W9t_14, A9t_14, B9t_14, C9t_14, P9t_14, O9t_14, st_14, yt_14, kt_14, ut_14, vt_14⟩ | ⟨qt_14, st_14⟩
      ·
        rw [qt_14]
        refine lv_istore_n (lv' := [(2, .int (iZ 1)), (0, .ref hx1), (1, .int (iZ x1))]) hx hb dX11_years_56 rfl hl (bl rfl) rfl (fun ls hl => ?_)
        refine lv_iload_n hx hb dX11_years_57 rfl (lv_at hl 0 rfl) ?_
        refine lv_if_ne (tgt := 68) hx hb dX11_years_58 rfl (fun _ => ?_) (fun c => absurd c (by decide))
        obtain ⟨⟨v1, v2, v3, v4, v0⟩, -⟩ := id kt_14
        have hYI9 := YI_of yt_14 kt_14 (by omega)
        refine lv_aload_n hx hb dX11_years_68 rfl (lv_at hl 1 rfl) ?_
        refine va_get (D := D) (ci := 11) (v := .ref hw1) (C := RX11) (T := TX11) (N := 16) hx hb hts iX11 hown hK hP 0 rfl rfl 1 (bl rfl) (hts _ qf_X11_18) (fun _ h => h) rfl dX11_years_69 ?_
        refine va_get (D := D) (ci := 8) (v := .ref hy) (C := RX8) (T := TX8) (N := 3) hx hb hts iX8 hown hK hP 2 rfl rfl 2 (bl rfl) (hts _ qf_X11_177) (fun _ h => h) rfl dX11_years_72 ?_
        refine lv_aload_n hx hb dX11_years_75 rfl (lv_at hl 1 rfl) ?_
        refine va_get (D := D) (ci := 11) (v := .ref hw12) (C := RX11) (T := TX11) (N := 16) hx hb hts iX11 hown hK hP 0 rfl rfl 2 (bl rfl) (hts _ qf_X11_22) (fun _ h => h) rfl dX11_years_76 ?_
        refine va_get (D := D) (ci := 8) (v := .ref hy2) (C := RX8) (T := TX8) (N := 3) hx hb hts iX8 hown hK hP 1 rfl rfl 2 (bl rfl) (hts _ qf_X11_177) (fun _ h => h) rfl dX11_years_79 ?_
        refine CWV (As := [.ref hy2]) (rest := []) (wc := _) (wr := [(hx1, .inr (11, [.ref ta, .ref hw1, .ref hw12, .ref ka, .ref hr1, .ref hq, .ref hv, .ref h, .ref hn1, .ref hL, .ref li, .int (iZ ev), .int (iZ mk), .int (iZ ou), .long up, .long lo])), (hw12, .inr (8, [.ref hs2, .ref hc2, .ref hy2])), (hw1, .inr (8, [.ref hs, .ref hc, .ref hy])), (hv, .inr (10, [.ref hr1, .ref oo, .int (iZ u_9.1.2.2.2.2.2.2.2.2.2.1), .ref hy2, .ref hs])), (oo, .inl (k 1, 3, .inl u_9.2.2.1.1)), (hr1, .inr (4, [.ref tx, .ref kw, .int (iZ u_4.1.2.1), .int (iZ u_4.1.2.2.1), .int (iZ u_9.1.2.1), .int (iZ u_9.1.2.2.1), .int (iZ u_9.1.2.2.2.1), .int (iZ u_9.1.2.2.2.2.1), .int (iZ u_9.1.2.2.2.2.2.1), .long u_9.2.1.2, .int (iZ u_9.1.2.2.2.2.2.2.1), .int (iZ u_9.1.2.2.2.2.2.2.2.1)])), (tx, .inl (k 0, 900, .inl bf)), (kw, .inl (k 2, 25, .inr (.inl kwf))), (hs, .inr (5, [.ref hN, .ref hf, .ref hg, .int (iZ n), .int (iZ ni), .int (iZ lw), .int (iZ we)])), (hN, .inl (k 2, 6, .inr (.inl nf)))]) hx hb hml hown hts hKK hP hD hS hA (k_ycopy l D k hy yw y1 y2 y3 yp th ys yr ywf y1f y2f y3f ypf hy2 yw2 y12 y22 y32 yp2 u_9.1.2.2.2.2.2.2.2.2.1 u_9.1.2.2.2.2.2.2.2.2.2.2.1 u_9.1.2.2.2.2.2.2.2.2.2.2.2 u_9.2.2.1.2.1 u_9.2.2.1.2.2.1 u_9.2.2.1.2.2.2.1 u_9.2.2.1.2.2.2.2.1 u_9.2.2.1.2.2.2.2.2 (by omega) ⟨by omega, by omega⟩) ci_X9_copyFrom qm_X11_184 ⟨Nat.le_of_ble_eq_true rfl, Nat.le_of_ble_eq_true rfl⟩ ⟨Nat.le_of_ble_eq_true rfl, Nat.le_of_ble_eq_true rfl⟩ [3, 4, 5, 6, 7, 8, 14, 15, 16, 17, 18, 19] [0, 1, 2, 9, 10, 11, 12, 13, 20, 21] rfl rfl rfl rfl rfl (dj rfl) 0 rfl rfl rfl hl.1 rfl (Nat.le_of_ble_eq_true rfl) dX11_years_82 (fun u_16 H locs hφ hP hD hS => ?_)
        obtain ⟨p_17, p_18, p_19, p_20, p_21⟩ : (CPY u_16.2.2.1.1 u_9.2.2.1.2.1 u_9.1.2.2.2.2.2.2.2.2.2.2.2) ∧ (CPY u_16.2.2.1.2.1 u_9.2.2.1.2.2.1 u_9.1.2.2.2.2.2.2.2.2.2.2.2) ∧ (CPY u_16.2.2.1.2.2.1 u_9.2.2.1.2.2.2.1 u_9.1.2.2.2.2.2.2.2.2.2.2.2) ∧ (CPY u_16.2.2.1.2.2.2.1 u_9.2.2.1.2.2.2.2.1 u_9.1.2.2.2.2.2.2.2.2.2.2.2) ∧ (CPY u_16.2.2.1.2.2.2.2 u_9.2.2.1.2.2.2.2.2 u_9.1.2.2.2.2.2.2.2.2.2.2.2) := hφ
        refine W.eq (g2 := F0 m 85 ls []) rfl ?_
        refine lv_aload_n hx hb dX11_years_85 rfl (lv_at hl 1 rfl) ?_
        refine lv_aload_n hx hb dX11_years_86 rfl (lv_at hl 1 rfl) ?_
        refine va_get (D := D) (ci := 11) (v := .ref hw1) (C := RX11) (T := TX11) (N := 16) hx hb hts iX11 hown hK hP 0 rfl rfl 1 (bl rfl) (hts _ qf_X11_18) (fun _ h => h) rfl dX11_years_87 ?_
        refine va_get (D := D) (ci := 8) (v := .ref hy) (C := RX8) (T := TX8) (N := 3) hx hb hts iX8 hown hK hP 2 rfl rfl 2 (bl rfl) (hts _ qf_X11_177) (fun _ h => h) rfl dX11_years_90 ?_
        refine va_get (D := D) (ci := 9) (v := .int (iZ u_9.1.2.2.2.2.2.2.2.2.2.2.1)) (C := RX9) (T := TX9) (N := 8) hx hb hts iX9 hown hK hP 10 rfl rfl 6 (bl rfl) (hts _ qf_X11_190) (fun _ h => h) rfl dX11_years_93 ?_
        refine CWV (As := [.int (iZ u_9.1.2.2.2.2.2.2.2.2.2.2.1)]) (rest := []) (wc := _) (wr := [(hw12, .inr (8, [.ref hs2, .ref hc2, .ref hy2])), (hw1, .inr (8, [.ref hs, .ref hc, .ref hy])), (hv, .inr (10, [.ref hr1, .ref oo, .int (iZ u_9.1.2.2.2.2.2.2.2.2.2.1), .ref hy2, .ref hs])), (oo, .inl (k 1, 3, .inl u_9.2.2.1.1)), (hr1, .inr (4, [.ref tx, .ref kw, .int (iZ u_4.1.2.1), .int (iZ u_4.1.2.2.1), .int (iZ u_9.1.2.1), .int (iZ u_9.1.2.2.1), .int (iZ u_9.1.2.2.2.1), .int (iZ u_9.1.2.2.2.2.1), .int (iZ u_9.1.2.2.2.2.2.1), .long u_9.2.1.2, .int (iZ u_9.1.2.2.2.2.2.2.1), .int (iZ u_9.1.2.2.2.2.2.2.2.1)])), (tx, .inl (k 0, 900, .inl bf)), (kw, .inl (k 2, 25, .inr (.inl kwf))), (hs, .inr (5, [.ref hN, .ref hf, .ref hg, .int (iZ n), .int (iZ ni), .int (iZ lw), .int (iZ we)])), (hN, .inl (k 2, 6, .inr (.inl nf))), (hy, .inr (9, [.ref yw, .ref y1, .ref y2, .ref y3, .ref yp, .int (iZ u_9.1.2.2.2.2.2.2.2.2.1), .int (iZ u_9.1.2.2.2.2.2.2.2.2.2.2.1), .int (iZ u_9.1.2.2.2.2.2.2.2.2.2.2.2)])), (yw, .inl (k 1, 60, .inl u_16.2.2.1.1)), (y1, .inl (k 1, 60, .inl u_16.2.2.1.2.1)), (y2, .inl (k 1, 60, .inl u_16.2.2.1.2.2.1)), (y3, .inl (k 1, 60, .inl u_16.2.2.1.2.2.2.1)), (yp, .inl (k 1, 60, .inl u_16.2.2.1.2.2.2.2)), (hy2, .inr (9, [.ref yw2, .ref y12, .ref y22, .ref y32, .ref yp2, .int (iZ u_9.1.2.2.2.2.2.2.2.2.1), .int (iZ u_9.1.2.2.2.2.2.2.2.2.2.2.1), .int (iZ u_9.1.2.2.2.2.2.2.2.2.2.2.2)])), (yw2, .inl (k 1, 60, .inl u_9.2.2.1.2.1)), (y12, .inl (k 1, 60, .inl u_9.2.2.1.2.2.1)), (y22, .inl (k 1, 60, .inl u_9.2.2.1.2.2.2.1)), (y32, .inl (k 1, 60, .inl u_9.2.2.1.2.2.2.2.1)), (yp2, .inl (k 1, 60, .inl u_9.2.2.1.2.2.2.2.2))]) hx hb hml hown hts hKK hP hD hS hA (k_answer l D k hx1 ta hw1 hw12 ka hr1 hq hv h hn1 hL li ev mk ou up lo u_9.1.2.2.2.2.2.2.2.2.2.2.1) ci_X11_answer qm_X11_174 ⟨Nat.le_of_ble_eq_true rfl, Nat.le_of_ble_eq_true rfl⟩ ⟨Nat.le_of_ble_eq_true rfl, Nat.le_of_ble_eq_true rfl⟩ [0] [1, 2, 3, 4, 5, 6, 7, 8, 9, 10, 11, 12, 13, 14, 15, 16, 17, 18, 19, 20, 21] rfl rfl rfl rfl rfl (dj rfl) 0 rfl rfl rfl hl.1 rfl (Nat.le_of_ble_eq_true rfl) dX11_years_96 (fun u_22 H locs hφ hP hD hS => ?_)
        refine W.eq (g2 := F0 m 99 ls [.int (iZ u_9.1.2.2.2.2.2.2.2.2.2.2.1)]) rfl ?_
        exact EWi hx hb hr hlocks hS ((u_9.1.2.2.2.2.2.2.2.2.2.2.1, u_4.1.2.1, u_4.1.2.2.1, u_9.1.2.1, u_9.1.2.2.1, u_9.1.2.2.2.1, u_9.1.2.2.2.2.1, u_9.1.2.2.2.2.2.1, u_9.1.2.2.2.2.2.2.1, u_9.1.2.2.2.2.2.2.2.1, 0, u_9.1.2.2.2.2.2.2.2.2.2.1, u_9.1.2.2.2.2.2.2.2.2.1, u_9.1.2.2.2.2.2.2.2.2.2.2.1, u_9.1.2.2.2.2.2.2.2.2.2.2.2, u_9.1.2.2.2.2.2.2.2.2.1, u_9.1.2.2.2.2.2.2.2.2.2.2.1, u_9.1.2.2.2.2.2.2.2.2.2.2.2), (0, u_9.2.1.2), (u_9.2.2.1.1, u_9.2.2.1.2.1, u_9.2.2.1.2.2.1, u_9.2.2.1.2.2.2.1, u_9.2.2.1.2.2.2.2.1, u_9.2.2.1.2.2.2.2.2, u_16.2.2.1.1, u_16.2.2.1.2.1, u_16.2.2.1.2.2.1, u_16.2.2.1.2.2.2.1, u_16.2.2.1.2.2.2.2), (), (.ref hy2, .ref hs)) rfl ⟨(show (0 ≤ u_4.1.2.1 ∧ u_4.1.2.1 ≤ 900) ∧ (0 ≤ u_4.1.2.2.1 ∧ u_4.1.2.2.1 ≤ 900) ∧ (0 ≤ u_9.1.2.1 ∧ u_9.1.2.1 ≤ u_9.1.2.2.1) ∧ (u_9.1.2.2.1 ≤ u_4.1.2.2.1) ∧ (0 ≤ u_9.1.2.2.2.1 ∧ u_9.1.2.2.2.1 ≤ 4) ∧ (-2147483648 ≤ u_9.1.2.2.2.2.1 ∧ u_9.1.2.2.2.2.1 < 2147483648) ∧ (-1 ≤ u_9.1.2.2.2.2.2.1 ∧ u_9.1.2.2.2.2.2.1 ≤ 24) from (by first | with_reducible assumption | exact ⟨⟨by omega, by omega⟩, ⟨by omega, by omega⟩, ⟨by omega, by omega⟩, by omega, ⟨by omega, by omega⟩, ⟨by omega, by omega⟩, by omega, by omega⟩)), (show ((0 ≤ x1 ∧ x1 ≤ tp ∧ x1 ≤ 300) ∧ (u_4.1.2.1 : Int) = 0) ∨ (¬ (0 ≤ x1 ∧ x1 ≤ tp ∧ x1 ≤ 300) ∧ u_4.1.2.1 = tp) from (by omega)), (show (u_9.1.2.2.2.2.2.2.2.2.1 = 0 ∨ u_9.1.2.2.2.2.2.2.2.2.1 = 1) ∧ (0 ≤ u_9.1.2.2.2.2.2.2.2.2.2.2.1 ∧ u_9.1.2.2.2.2.2.2.2.2.2.2.1 ≤ 30) ∧ (0 ≤ u_9.1.2.2.2.2.2.2.2.2.2.2.2 ∧ u_9.1.2.2.2.2.2.2.2.2.2.2.2 ≤ 60) from ⟨by omega, ⟨by omega, by omega⟩, ⟨by omega, by omega⟩⟩), (show YI u_16.2.2.1.1 u_16.2.2.1.2.1 u_16.2.2.1.2.2.2.1 u_16.2.2.1.2.2.2.2 n u_9.1.2.2.2.2.2.2.2.2.2.2.2 from (CPY.yi p_17 p_18 p_20 p_21 hYI9)), (show ((0 ≤ x1 ∧ x1 ≤ tp ∧ x1 ≤ 300) ∧ ∃ s9 : YS_, xYrs (tX bf x1) N n = .inr s9 ∧ (YV_ n s9 ∧ s9.2.2.1 = 0) ∧ yCM u_16.2.2.1.1 u_16.2.2.1.2.1 u_16.2.2.1.2.2.1 u_16.2.2.1.2.2.2.1 u_16.2.2.1.2.2.2.2 u_9.1.2.2.2.2.2.2.2.2.2.2.2 (pOf s9) ∧ u_9.1.2.2.2.2.2.2.2.2.1 = 1 ∧ u_9.1.2.2.2.2.2.2.2.2.2.2.1 = s9.2.1 ∧ (u_9.1.2.2.2.2.2.2.1 : Int) = 0 ∧ u_9.1.2.2.2.2.2.2.2.1 = -1) ∨ ((0 ≤ x1 ∧ x1 ≤ tp ∧ x1 ≤ 300) ∧ ∃ e9 : Int × Int, xYrs (tX bf x1) N n = .inl e9 ∧ (u_9.1.2.2.2.2.2.2.2.2.2.2.1 : Int) = -1 ∧ u_9.1.2.2.2.2.2.2.1 = e9.1 ∧ u_9.1.2.2.2.2.2.2.2.1 = e9.2 ∧ u_9.1.2.2.2.2.2.2.2.2.1 = th ∧ u_9.1.2.2.2.2.2.2.2.2.2.2.1 = ys ∧ u_9.1.2.2.2.2.2.2.2.2.2.2.2 = yr ∧ u_16.2.2.1.1 = ywf ∧ u_16.2.2.1.2.1 = y1f ∧ u_16.2.2.1.2.2.1 = y2f ∧ u_16.2.2.1.2.2.2.1 = y3f ∧ u_16.2.2.1.2.2.2.2 = ypf) ∨ (¬ (0 ≤ x1 ∧ x1 ≤ tp ∧ x1 ≤ 300) ∧ (u_9.1.2.2.2.2.2.2.2.2.2.2.1 : Int) = -1 ∧ u_9.1.2.2.2.2.2.2.1 = fk ∧ u_9.1.2.2.2.2.2.2.2.1 = fp ∧ u_9.1.2.2.2.2.2.2.2.2.1 = th ∧ u_9.1.2.2.2.2.2.2.2.2.2.2.1 = ys ∧ u_9.1.2.2.2.2.2.2.2.2.2.2.2 = yr ∧ u_16.2.2.1.1 = ywf ∧ u_16.2.2.1.2.1 = y1f ∧ u_16.2.2.1.2.2.1 = y2f ∧ u_16.2.2.1.2.2.2.1 = y3f ∧ u_16.2.2.1.2.2.2.2 = ypf) from (Or.inl ⟨⟨by omega, by omega, by omega⟩, (u_9.1.2.2.2.2.2.2.2.2.2.2.2, u_9.1.2.2.2.2.2.2.2.2.2.2.1, 0, W9t_14, A9t_14, B9t_14, C9t_14, P9t_14, O9t_14), by rw [(show x1 = u_4.1.2.2.1 from (by omega))]; exact st_14, ⟨kt_14, rfl⟩, yCM.of yt_14 p_17 p_18 p_19 p_20 p_21, by omega, by show _ = u_9.1.2.2.2.2.2.2.2.2.2.2.1; omega, by omega, by omega⟩))⟩ (hP.sub [21, 2, 3, 4, 5, 6, 0, 15, 16, 17, 18, 19, 20, 1, 9, 10, 11, 12, 13, 14, 7, 8] rfl) (hD.sub [21, 2, 3, 4, 5, 6, 0, 15, 16, 17, 18, 19, 20, 1, 9, 10, 11, 12, 13, 14, 7, 8] rfl rfl) dX11_years_99
      ·
        rw [qt_14]
        refine lv_istore_n (lv' := [(2, .int (iZ 0)), (0, .ref hx1), (1, .int (iZ x1))]) hx hb dX11_years_56 rfl hl (bl rfl) rfl (fun ls hl => ?_)
        refine lv_iload_n hx hb dX11_years_57 rfl (lv_at hl 0 rfl) ?_
        refine lv_if_ne (tgt := 68) hx hb dX11_years_58 rfl (fun c => absurd (by decide) c) (fun _ => ?_)
        refine lv_aload_n hx hb dX11_years_61 rfl (lv_at hl 1 rfl) ?_
        refine lv_bipush (v := iZ 9) hx hb dX11_years_62 bip_9 ?_
        refine CWV (As := [.int (iZ 9)]) (rest := []) (wc := _) (wr := [(hw12, .inr (8, [.ref hs2, .ref hc2, .ref hy2])), (hw1, .inr (8, [.ref hs, .ref hc, .ref hy])), (hy, .inr (9, [.ref yw, .ref y1, .ref y2, .ref y3, .ref yp, .int (iZ th), .int (iZ ys), .int (iZ yr)])), (yw, .inl (k 1, 60, .inl ywf)), (y1, .inl (k 1, 60, .inl y1f)), (y2, .inl (k 1, 60, .inl y2f)), (y3, .inl (k 1, 60, .inl y3f)), (yp, .inl (k 1, 60, .inl ypf)), (hv, .inr (10, [.ref hr1, .ref oo, .int (iZ u_9.1.2.2.2.2.2.2.2.2.2.1), .ref hy2, .ref hs])), (oo, .inl (k 1, 3, .inl u_9.2.2.1.1)), (hr1, .inr (4, [.ref tx, .ref kw, .int (iZ u_4.1.2.1), .int (iZ u_4.1.2.2.1), .int (iZ u_9.1.2.1), .int (iZ u_9.1.2.2.1), .int (iZ u_9.1.2.2.2.1), .int (iZ u_9.1.2.2.2.2.1), .int (iZ u_9.1.2.2.2.2.2.1), .long u_9.2.1.2, .int (iZ u_9.1.2.2.2.2.2.2.1), .int (iZ u_9.1.2.2.2.2.2.2.2.1)])), (tx, .inl (k 0, 900, .inl bf)), (kw, .inl (k 2, 25, .inr (.inl kwf))), (hy2, .inr (9, [.ref yw2, .ref y12, .ref y22, .ref y32, .ref yp2, .int (iZ u_9.1.2.2.2.2.2.2.2.2.1), .int (iZ u_9.1.2.2.2.2.2.2.2.2.2.2.1), .int (iZ u_9.1.2.2.2.2.2.2.2.2.2.2.2)])), (yw2, .inl (k 1, 60, .inl u_9.2.2.1.2.1)), (y12, .inl (k 1, 60, .inl u_9.2.2.1.2.2.1)), (y22, .inl (k 1, 60, .inl u_9.2.2.1.2.2.2.1)), (y32, .inl (k 1, 60, .inl u_9.2.2.1.2.2.2.2.1)), (yp2, .inl (k 1, 60, .inl u_9.2.2.1.2.2.2.2.2)), (hs, .inr (5, [.ref hN, .ref hf, .ref hg, .int (iZ n), .int (iZ ni), .int (iZ lw), .int (iZ we)])), (hN, .inl (k 2, 6, .inr (.inl nf)))]) hx hb hml hown hts hKK hP hD hS hA (k_refuse l D k hx1 ta hw1 hw12 ka hr1 hq hv h hn1 hL li ev mk ou up lo 9) ci_X11_refuse qm_X11_126 ⟨Nat.le_of_ble_eq_true rfl, Nat.le_of_ble_eq_true rfl⟩ ⟨Nat.le_of_ble_eq_true rfl, Nat.le_of_ble_eq_true rfl⟩ [0] [1, 2, 3, 4, 5, 6, 7, 8, 9, 10, 11, 12, 13, 14, 15, 16, 17, 18, 19, 20, 21] rfl rfl rfl rfl rfl (dj rfl) 0 rfl rfl rfl hl.1 rfl (Nat.le_of_ble_eq_true rfl) dX11_years_64 (fun u_24 H locs hφ hP hD hS => ?_)
        refine W.eq (g2 := F0 m 67 ls [.int (iZ (-1))]) rfl ?_
        exact EWi hx hb hr hlocks hS (((-1), u_4.1.2.1, u_4.1.2.2.1, u_9.1.2.1, u_9.1.2.2.1, u_9.1.2.2.2.1, u_9.1.2.2.2.2.1, u_9.1.2.2.2.2.2.1, u_9.1.2.2.2.2.2.2.1, u_9.1.2.2.2.2.2.2.2.1, 9, u_9.1.2.2.2.2.2.2.2.2.2.1, u_9.1.2.2.2.2.2.2.2.2.1, u_9.1.2.2.2.2.2.2.2.2.2.2.1, u_9.1.2.2.2.2.2.2.2.2.2.2.2, th, ys, yr), (0, u_9.2.1.2), (u_9.2.2.1.1, u_9.2.2.1.2.1, u_9.2.2.1.2.2.1, u_9.2.2.1.2.2.2.1, u_9.2.2.1.2.2.2.2.1, u_9.2.2.1.2.2.2.2.2, ywf, y1f, y2f, y3f, ypf), (), (.ref hy2, .ref hs)) rfl ⟨(show (0 ≤ u_4.1.2.1 ∧ u_4.1.2.1 ≤ 900) ∧ (0 ≤ u_4.1.2.2.1 ∧ u_4.1.2.2.1 ≤ 900) ∧ (0 ≤ u_9.1.2.1 ∧ u_9.1.2.1 ≤ u_9.1.2.2.1) ∧ (u_9.1.2.2.1 ≤ u_4.1.2.2.1) ∧ (0 ≤ u_9.1.2.2.2.1 ∧ u_9.1.2.2.2.1 ≤ 4) ∧ (-2147483648 ≤ u_9.1.2.2.2.2.1 ∧ u_9.1.2.2.2.2.1 < 2147483648) ∧ (-1 ≤ u_9.1.2.2.2.2.2.1 ∧ u_9.1.2.2.2.2.2.1 ≤ 24) from (by first | with_reducible assumption | exact ⟨⟨by omega, by omega⟩, ⟨by omega, by omega⟩, ⟨by omega, by omega⟩, by omega, ⟨by omega, by omega⟩, ⟨by omega, by omega⟩, by omega, by omega⟩)), (show ((0 ≤ x1 ∧ x1 ≤ tp ∧ x1 ≤ 300) ∧ (u_4.1.2.1 : Int) = 0) ∨ (¬ (0 ≤ x1 ∧ x1 ≤ tp ∧ x1 ≤ 300) ∧ u_4.1.2.1 = tp) from (by omega)), (show (th = 0 ∨ th = 1) ∧ (0 ≤ ys ∧ ys ≤ 30) ∧ (0 ≤ yr ∧ yr ≤ 60) from ⟨by omega, ⟨by omega, by omega⟩, ⟨by omega, by omega⟩⟩), (show YI ywf y1f y3f ypf n yr from hYI), (show ((0 ≤ x1 ∧ x1 ≤ tp ∧ x1 ≤ 300) ∧ ∃ s9 : YS_, xYrs (tX bf x1) N n = .inr s9 ∧ (YV_ n s9 ∧ s9.2.2.1 = 0) ∧ yCM ywf y1f y2f y3f ypf yr (pOf s9) ∧ th = 1 ∧ (-1) = s9.2.1 ∧ (u_9.1.2.2.2.2.2.2.1 : Int) = 0 ∧ u_9.1.2.2.2.2.2.2.2.1 = -1) ∨ ((0 ≤ x1 ∧ x1 ≤ tp ∧ x1 ≤ 300) ∧ ∃ e9 : Int × Int, xYrs (tX bf x1) N n = .inl e9 ∧ ((-1) : Int) = -1 ∧ u_9.1.2.2.2.2.2.2.1 = e9.1 ∧ u_9.1.2.2.2.2.2.2.2.1 = e9.2 ∧ th = th ∧ ys = ys ∧ yr = yr ∧ ywf = ywf ∧ y1f = y1f ∧ y2f = y2f ∧ y3f = y3f ∧ ypf = ypf) ∨ (¬ (0 ≤ x1 ∧ x1 ≤ tp ∧ x1 ≤ 300) ∧ ((-1) : Int) = -1 ∧ u_9.1.2.2.2.2.2.2.1 = fk ∧ u_9.1.2.2.2.2.2.2.2.1 = fp ∧ th = th ∧ ys = ys ∧ yr = yr ∧ ywf = ywf ∧ y1f = y1f ∧ y2f = y2f ∧ y3f = y3f ∧ ypf = ypf) from (Or.inr (Or.inl ⟨⟨by omega, by omega, by omega⟩, (u_9.1.2.2.2.2.2.2.1, u_9.1.2.2.2.2.2.2.2.1), by rw [(show x1 = u_4.1.2.2.1 from (by omega))]; exact st_14, by omega, by show _ = u_9.1.2.2.2.2.2.2.1; omega, by show _ = u_9.1.2.2.2.2.2.2.2.1; omega, rfl, rfl, rfl, rfl, rfl, rfl, rfl, rfl⟩)))⟩ (hP.sub [21, 8, 9, 10, 11, 12, 0, 13, 14, 15, 16, 17, 18, 1, 2, 3, 4, 5, 6, 7, 19, 20] rfl) (hD.sub [21, 8, 9, 10, 11, 12, 0, 13, 14, 15, 16, 17, 18, 1, 2, 3, 4, 5, 6, 7, 19, 20] rfl rfl) dX11_years_67
    ·
      have c_3 := mt (zle (x := iZ x1) (y := iZ 300) rfl rfl ⟨by omega, by omega⟩ wn_300).mpr c_3
      refine lv_aload_n hx hb dX11_years_21 rfl (lv_at hl 0 rfl) ?_
      refine lv_iconst (v := iZ 1) hx hb dX11_years_22 rfl ?_
      refine CWV (As := [.int (iZ 1)]) (rest := []) (wc := _) (wr := [(hv, .inr (10, [.ref hr1, .ref oo, .int (iZ de), sv, sv2])), (oo, .inl (k 1, 3, .inl of0)), (hr1, .inr (4, [.ref tx, .ref kw, .int (iZ tp), .int (iZ ln), .int (iZ pl), .int (iZ en), .int (iZ ki), .int (iZ va), .int (iZ ke), .long nm, .int (iZ fk), .int (iZ fp)])), (tx, .inl (k 0, 900, .inl bf)), (kw, .inl (k 2, 25, .inr (.inl kwf))), (hw12, .inr (8, [.ref hs2, .ref hc2, .ref hy2])), (hy2, .inr (9, [.ref yw2, .ref y12, .ref y22, .ref y32, .ref yp2, .int (iZ th2), .int (iZ ys2), .int (iZ yr2)])), (yw2, .inl (k 1, 60, .inl ywf2)), (y12, .inl (k 1, 60, .inl y1f2)), (y22, .inl (k 1, 60, .inl y2f2)), (y32, .inl (k 1, 60, .inl y3f2)), (yp2, .inl (k 1, 60, .inl ypf2)), (hw1, .inr (8, [.ref hs, .ref hc, .ref hy])), (hy, .inr (9, [.ref yw, .ref y1, .ref y2, .ref y3, .ref yp, .int (iZ th), .int (iZ ys), .int (iZ yr)])), (yw, .inl (k 1, 60, .inl ywf)), (y1, .inl (k 1, 60, .inl y1f)), (y2, .inl (k 1, 60, .inl y2f)), (y3, .inl (k 1, 60, .inl y3f)), (yp, .inl (k 1, 60, .inl ypf)), (hs, .inr (5, [.ref hN, .ref hf, .ref hg, .int (iZ n), .int (iZ ni), .int (iZ lw), .int (iZ we)])), (hN, .inl (k 2, 6, .inr (.inl nf)))]) hx hb hml hown hts hKK hP hD hS hA (k_refuse l D k hx1 ta hw1 hw12 ka hr1 hq hv h hn1 hL li ev mk ou up lo 1) ci_X11_refuse qm_X11_126 ⟨Nat.le_of_ble_eq_true rfl, Nat.le_of_ble_eq_true rfl⟩ ⟨Nat.le_of_ble_eq_true rfl, Nat.le_of_ble_eq_true rfl⟩ [0] [1, 2, 3, 4, 5, 6, 7, 8, 9, 10, 11, 12, 13, 14, 15, 16, 17, 18, 19, 20, 21] rfl rfl rfl rfl rfl (dj rfl) 0 rfl rfl rfl hl.1 rfl (Nat.le_of_ble_eq_true rfl) dX11_years_23 (fun u_25 H locs hφ hP hD hS => ?_)
      refine W.eq (g2 := F0 m 26 ls [.int (iZ (-1))]) rfl ?_
      exact EWi hx hb hr hlocks hS (((-1), tp, ln, pl, en, ki, va, ke, fk, fp, 1, de, th2, ys2, yr2, th, ys, yr), (0, nm), (of0, ywf2, y1f2, y2f2, y3f2, ypf2, ywf, y1f, y2f, y3f, ypf), (), (sv, sv2)) rfl ⟨(show (0 ≤ tp ∧ tp ≤ 900) ∧ (0 ≤ ln ∧ ln ≤ 900) ∧ (0 ≤ pl ∧ pl ≤ en) ∧ (en ≤ ln) ∧ (0 ≤ ki ∧ ki ≤ 4) ∧ (-2147483648 ≤ va ∧ va < 2147483648) ∧ (-1 ≤ ke ∧ ke ≤ 24) from (by first | with_reducible assumption | exact ⟨⟨by omega, by omega⟩, ⟨by omega, by omega⟩, ⟨by omega, by omega⟩, by omega, ⟨by omega, by omega⟩, ⟨by omega, by omega⟩, by omega, by omega⟩)), (show ((0 ≤ x1 ∧ x1 ≤ tp ∧ x1 ≤ 300) ∧ (tp : Int) = 0) ∨ (¬ (0 ≤ x1 ∧ x1 ≤ tp ∧ x1 ≤ 300) ∧ tp = tp) from (by omega)), (show (th = 0 ∨ th = 1) ∧ (0 ≤ ys ∧ ys ≤ 30) ∧ (0 ≤ yr ∧ yr ≤ 60) from ⟨by omega, ⟨by omega, by omega⟩, ⟨by omega, by omega⟩⟩), (show YI ywf y1f y3f ypf n yr from hYI), (show ((0 ≤ x1 ∧ x1 ≤ tp ∧ x1 ≤ 300) ∧ ∃ s9 : YS_, xYrs (tX bf x1) N n = .inr s9 ∧ (YV_ n s9 ∧ s9.2.2.1 = 0) ∧ yCM ywf y1f y2f y3f ypf yr (pOf s9) ∧ th = 1 ∧ (-1) = s9.2.1 ∧ (fk : Int) = 0 ∧ fp = -1) ∨ ((0 ≤ x1 ∧ x1 ≤ tp ∧ x1 ≤ 300) ∧ ∃ e9 : Int × Int, xYrs (tX bf x1) N n = .inl e9 ∧ ((-1) : Int) = -1 ∧ fk = e9.1 ∧ fp = e9.2 ∧ th = th ∧ ys = ys ∧ yr = yr ∧ ywf = ywf ∧ y1f = y1f ∧ y2f = y2f ∧ y3f = y3f ∧ ypf = ypf) ∨ (¬ (0 ≤ x1 ∧ x1 ≤ tp ∧ x1 ≤ 300) ∧ ((-1) : Int) = -1 ∧ fk = fk ∧ fp = fp ∧ th = th ∧ ys = ys ∧ yr = yr ∧ ywf = ywf ∧ y1f = y1f ∧ y2f = y2f ∧ y3f = y3f ∧ ypf = ypf) from (Or.inr (Or.inr ⟨by omega, by omega, by omega, by omega, rfl, rfl, rfl, rfl, rfl, rfl, rfl, rfl⟩)))⟩ (hP.sub [21, 0, 1, 2, 3, 4, 5, 6, 7, 8, 9, 10, 11, 12, 13, 14, 15, 16, 17, 18, 19, 20] rfl) (hD.sub [21, 0, 1, 2, 3, 4, 5, 6, 7, 8, 9, 10, 11, 12, 13, 14, 15, 16, 17, 18, 19, 20] rfl rfl) dX11_years_26
  ·
    subst qz_1
    refine lv_if_eq (tgt := 21) hx hb dX11_years_11 rfl (fun _ => ?_) (fun c => absurd (by decide) c)
    refine lv_aload_n hx hb dX11_years_21 rfl (lv_at hl 0 rfl) ?_
    refine lv_iconst (v := iZ 1) hx hb dX11_years_22 rfl ?_
    refine CWV (As := [.int (iZ 1)]) (rest := []) (wc := _) (wr := [(hv, .inr (10, [.ref hr1, .ref oo, .int (iZ de), sv, sv2])), (oo, .inl (k 1, 3, .inl of0)), (hr1, .inr (4, [.ref tx, .ref kw, .int (iZ tp), .int (iZ ln), .int (iZ pl), .int (iZ en), .int (iZ ki), .int (iZ va), .int (iZ ke), .long nm, .int (iZ fk), .int (iZ fp)])), (tx, .inl (k 0, 900, .inl bf)), (kw, .inl (k 2, 25, .inr (.inl kwf))), (hw12, .inr (8, [.ref hs2, .ref hc2, .ref hy2])), (hy2, .inr (9, [.ref yw2, .ref y12, .ref y22, .ref y32, .ref yp2, .int (iZ th2), .int (iZ ys2), .int (iZ yr2)])), (yw2, .inl (k 1, 60, .inl ywf2)), (y12, .inl (k 1, 60, .inl y1f2)), (y22, .inl (k 1, 60, .inl y2f2)), (y32, .inl (k 1, 60, .inl y3f2)), (yp2, .inl (k 1, 60, .inl ypf2)), (hw1, .inr (8, [.ref hs, .ref hc, .ref hy])), (hy, .inr (9, [.ref yw, .ref y1, .ref y2, .ref y3, .ref yp, .int (iZ th), .int (iZ ys), .int (iZ yr)])), (yw, .inl (k 1, 60, .inl ywf)), (y1, .inl (k 1, 60, .inl y1f)), (y2, .inl (k 1, 60, .inl y2f)), (y3, .inl (k 1, 60, .inl y3f)), (yp, .inl (k 1, 60, .inl ypf)), (hs, .inr (5, [.ref hN, .ref hf, .ref hg, .int (iZ n), .int (iZ ni), .int (iZ lw), .int (iZ we)])), (hN, .inl (k 2, 6, .inr (.inl nf)))]) hx hb hml hown hts hKK hP hD hS hA (k_refuse l D k hx1 ta hw1 hw12 ka hr1 hq hv h hn1 hL li ev mk ou up lo 1) ci_X11_refuse qm_X11_126 ⟨Nat.le_of_ble_eq_true rfl, Nat.le_of_ble_eq_true rfl⟩ ⟨Nat.le_of_ble_eq_true rfl, Nat.le_of_ble_eq_true rfl⟩ [0] [1, 2, 3, 4, 5, 6, 7, 8, 9, 10, 11, 12, 13, 14, 15, 16, 17, 18, 19, 20, 21] rfl rfl rfl rfl rfl (dj rfl) 0 rfl rfl rfl hl.1 rfl (Nat.le_of_ble_eq_true rfl) dX11_years_23 (fun u_27 H locs hφ hP hD hS => ?_)
    refine W.eq (g2 := F0 m 26 ls [.int (iZ (-1))]) rfl ?_
    exact EWi hx hb hr hlocks hS (((-1), tp, ln, pl, en, ki, va, ke, fk, fp, 1, de, th2, ys2, yr2, th, ys, yr), (0, nm), (of0, ywf2, y1f2, y2f2, y3f2, ypf2, ywf, y1f, y2f, y3f, ypf), (), (sv, sv2)) rfl ⟨(show (0 ≤ tp ∧ tp ≤ 900) ∧ (0 ≤ ln ∧ ln ≤ 900) ∧ (0 ≤ pl ∧ pl ≤ en) ∧ (en ≤ ln) ∧ (0 ≤ ki ∧ ki ≤ 4) ∧ (-2147483648 ≤ va ∧ va < 2147483648) ∧ (-1 ≤ ke ∧ ke ≤ 24) from (by first | with_reducible assumption | exact ⟨⟨by omega, by omega⟩, ⟨by omega, by omega⟩, ⟨by omega, by omega⟩, by omega, ⟨by omega, by omega⟩, ⟨by omega, by omega⟩, by omega, by omega⟩)), (show ((0 ≤ x1 ∧ x1 ≤ tp ∧ x1 ≤ 300) ∧ (tp : Int) = 0) ∨ (¬ (0 ≤ x1 ∧ x1 ≤ tp ∧ x1 ≤ 300) ∧ tp = tp) from (by omega)), (show (th = 0 ∨ th = 1) ∧ (0 ≤ ys ∧ ys ≤ 30) ∧ (0 ≤ yr ∧ yr ≤ 60) from ⟨by omega, ⟨by omega, by omega⟩, ⟨by omega, by omega⟩⟩), (show YI ywf y1f y3f ypf n yr from hYI), (show ((0 ≤ x1 ∧ x1 ≤ tp ∧ x1 ≤ 300) ∧ ∃ s9 : YS_, xYrs (tX bf x1) N n = .inr s9 ∧ (YV_ n s9 ∧ s9.2.2.1 = 0) ∧ yCM ywf y1f y2f y3f ypf yr (pOf s9) ∧ th = 1 ∧ (-1) = s9.2.1 ∧ (fk : Int) = 0 ∧ fp = -1) ∨ ((0 ≤ x1 ∧ x1 ≤ tp ∧ x1 ≤ 300) ∧ ∃ e9 : Int × Int, xYrs (tX bf x1) N n = .inl e9 ∧ ((-1) : Int) = -1 ∧ fk = e9.1 ∧ fp = e9.2 ∧ th = th ∧ ys = ys ∧ yr = yr ∧ ywf = ywf ∧ y1f = y1f ∧ y2f = y2f ∧ y3f = y3f ∧ ypf = ypf) ∨ (¬ (0 ≤ x1 ∧ x1 ≤ tp ∧ x1 ≤ 300) ∧ ((-1) : Int) = -1 ∧ fk = fk ∧ fp = fp ∧ th = th ∧ ys = ys ∧ yr = yr ∧ ywf = ywf ∧ y1f = y1f ∧ y2f = y2f ∧ y3f = y3f ∧ ypf = ypf) from (Or.inr (Or.inr ⟨by omega, by omega, by omega, by omega, rfl, rfl, rfl, rfl, rfl, rfl, rfl, rfl⟩)))⟩ (hP.sub [21, 0, 1, 2, 3, 4, 5, 6, 7, 8, 9, 10, 11, 12, 13, 14, 15, 16, 17, 18, 19, 20] rfl) (hD.sub [21, 0, 1, 2, 3, 4, 5, 6, 7, 8, 9, 10, 11, 12, 13, 14, 15, 16, 17, 18, 19, 20] rfl rfl) dX11_years_26
end

section
/-- the names of both sides are the same -/
def NME (n : Int) (nf Nf : Nat → Int64) (c : Int) : Prop := ∃ N : Int → Int, xNs nf N n ∧ xNr Nf c N n
def NMI (i mk n : Int) (nf Nf : Nat → Int64) (c : Int) : Prop := i < mk → NME n nf Nf c
theorem NME.mv {n b c : Int} {nf nf' Nf Mf : Nat → Int64} (h : NME n nf Nf b) (k : ∀ e : Int, 0 ≤ e → e < 6 → Mf (c + e).toNat = Nf (b + e).toNat) (hf : CPL nf' nf 6) (hn : n ≤ 6) : NME n nf' Mf c := by
  obtain ⟨N, h1, h2⟩ := h
  exact ⟨N, fun e p q => by rw [hf e p (by omega)]; exact h1 e p q, fun e p q => by rw [k e p (by omega)]; exact h2 e p q⟩
theorem CPL.rf (f : Nat → Int64) (n : Int) : CPL f f n := fun _ _ _ => rfl
theorem NME.keep {n c : Int} {nf Nf Mf : Nat → Int64} (h : NME n nf Nf c) (k : ∀ e : Int, c ≤ e → e < c + 6 → Mf e.toNat = Nf e.toNat) (hn : n ≤ 6) : NME n nf Mf c := h.mv (fun e p q => k (c + e) (by omega) (by omega)) (CPL.rf nf 6) hn
theorem NME_0 {nf Nf : Nat → Int64} {c : Int} : NME 0 nf Nf c := ⟨fun _ => 0, fun k a b => absurd a (by omega), fun k a b => absurd a (by omega)⟩
theorem NME.mark {n n0 n' mk mk' i c M : Int} {P1 Q1 P2 Q2 : Prop} {nf nf0 nf' Nf Mf : Nat → Int64} (hc : c = 6 * (i + 1)) (hi : 0 ≤ i ∧ i < 3) (old : i < mk → NME n0 nf0 Nf c) (w : NME n nf Nf 0) (cx : (mk = i → (n' = n ∧ P1) ∧ Q1) ∧ (¬ mk = i → (n' = n0 ∧ P2) ∧ Q2)) (cf : (mk = i → CPL nf' nf 6) ∧ (¬ mk = i → nf' = nf0))
    (hq : mk = M) (rf : (M < 3 → (∀ e : Int, 0 ≤ e → e < 6 → Mf (6 * (M + 1) + e).toNat = Nf e.toNat) ∧ ∀ j : Int, 0 ≤ j → (j < 6 * (M + 1) ∨ 6 * (M + 1) + 6 ≤ j) → Mf j.toNat = Nf j.toNat) ∧ (¬ M < 3 → Mf = Nf))
    (hm : (mk = 3 ∧ mk' = 3) ∨ (mk < 3 ∧ mk' = mk + 1)) (h1 : n ≤ 6) (h2 : n0 ≤ 6) : i < mk' → NME n' nf' Mf c := by
  subst hq
  intro h
  by_cases q : mk = i
  · obtain ⟨⟨rfl, -⟩, -⟩ := cx.1 q
    refine w.mv (fun e p r => ?_) (cf.1 q) h1
    have := (rf.1 (by omega)).1 e p r
    rw [show 6 * (mk + 1) = c by rw [hc, q]] at this
    rw [this, show 0 + e = e by omega]
  · obtain ⟨⟨rfl, -⟩, -⟩ := cx.2 q
    rw [cf.2 q]
    have o := old (by omega)
    by_cases m : mk < 3
    · exact o.keep (fun e p r => (rf.1 m).2 e (by omega) (by omega)) h2
    · rw [rf.2 m]; exact o
theorem NME.mark0 {n mk M : Int} {nf Nf Mf : Nat → Int64} (hm : 0 ≤ mk) (w : NME n nf Nf 0)
    (hq : mk = M) (rf : (M < 3 → (∀ e : Int, 0 ≤ e → e < 6 → Mf (6 * (M + 1) + e).toNat = Nf e.toNat) ∧ ∀ j : Int, 0 ≤ j → (j < 6 * (M + 1) ∨ 6 * (M + 1) + 6 ≤ j) → Mf j.toNat = Nf j.toNat) ∧ (¬ M < 3 → Mf = Nf)) (h1 : n ≤ 6) : NME n nf Mf 0 := by
  subst hq
  by_cases m : mk < 3
  · exact w.keep (fun e p r => (rf.1 m).2 e (by omega) (by omega)) h1
  · rw [rf.2 m]; exact w
theorem NME.back {n mk mk' c i M : Int} {nf Nf Mf : Nat → Int64} (hc : c = 6 * (i + 1)) (hi : 0 ≤ i) (old : i < mk → NME n nf Nf c) (hq : mk = M) (rf : (0 < M → (∀ e : Int, 0 ≤ e → e < 6 → Mf e.toNat = Nf (6 * M + e).toNat) ∧ ∀ j : Int, 6 ≤ j → Mf j.toNat = Nf j.toNat) ∧ (¬ 0 < M → Mf = Nf)) (hm : mk' ≤ mk) (h1 : n ≤ 6) : i < mk' → NME n nf Mf c := by
  subst hq
  intro h
  exact (old (by omega)).keep (fun e p r => (rf.1 (by omega)).2 e (by omega)) h1
theorem NME.back0 {n n0 n1 n2 n' mk M : Int} {P0 Q0 P1 Q1 P2 Q2 P3 Q3 : Prop} {nf nf0 nf1 nf2 nf' Nf Mf : Nat → Int64} (hm : 0 ≤ mk ∧ mk ≤ 3) (w : NME n nf Nf 0) (w0 : 0 < mk → NME n0 nf0 Nf 6) (w1 : 1 < mk → NME n1 nf1 Nf 12) (w2 : 2 < mk → NME n2 nf2 Nf 18)
    (c0 : mk = 1 → (n' = n0 ∧ P0) ∧ Q0) (c1 : mk = 2 → (n' = n1 ∧ P1) ∧ Q1) (c2 : mk = 3 → (n' = n2 ∧ P2) ∧ Q2) (cz : mk = 0 → (n' = n ∧ P3) ∧ Q3)
    (d0 : mk = 1 → CPL nf' nf0 6) (d1 : mk = 2 → CPL nf' nf1 6) (d2 : mk = 3 → CPL nf' nf2 6) (dz : mk = 0 → nf' = nf)
    (hq : mk = M) (rf : (0 < M → (∀ e : Int, 0 ≤ e → e < 6 → Mf e.toNat = Nf (6 * M + e).toNat) ∧ ∀ j : Int, 6 ≤ j → Mf j.toNat = Nf j.toNat) ∧ (¬ 0 < M → Mf = Nf)) (h0 : n0 ≤ 6) (h1 : n1 ≤ 6) (h2 : n2 ≤ 6) : NME n' nf' Mf 0 := by
  subst hq
  rcases (show mk = 0 ∨ mk = 1 ∨ mk = 2 ∨ mk = 3 by omega) with q | q | q | q
  · obtain ⟨⟨rfl, -⟩, -⟩ := cz q
    rw [rf.2 (by omega), dz q]; exact w
  · obtain ⟨⟨rfl, -⟩, -⟩ := c0 q
    exact (w0 (by omega)).mv (fun e p r => by have := (rf.1 (by omega)).1 e p r; rw [q, show 6 * (1 : Int) = 6 by decide] at this; rw [show 0 + e = e by omega]; exact this) (d0 q) h0
  · obtain ⟨⟨rfl, -⟩, -⟩ := c1 q
    exact (w1 (by omega)).mv (fun e p r => by have := (rf.1 (by omega)).1 e p r; rw [q, show 6 * (2 : Int) = 12 by decide] at this; rw [show 0 + e = e by omega]; exact this) (d1 q) h1
  · obtain ⟨⟨rfl, -⟩, -⟩ := c2 q
    exact (w2 (by omega)).mv (fun e p r => by have := (rf.1 (by omega)).1 e p r; rw [q, show 6 * (3 : Int) = 18 by decide] at this; rw [show 0 + e = e by omega]; exact this) (d2 q) h2
theorem NME.sky {n n' ni' lw' we' x t u : Int} {X1 X2 Z1 Z2 Z3 Z4 : Prop} {f' g' : Nat → Int32} {nf nf' Nf Mf : Nat → Int64} {R R' : (Int × Int) ⊕ (Int × XS)} (w : NME n nf Nf 0) (hu : t = u) (hR : (0 ≤ x ∧ x ≤ t) → R = R') (hn : n ≤ 6)
    (cf : ((0 ≤ x ∧ x ≤ t) ∧ ∃ (q9 : Int) (s9 : XS), R = .inr (q9, s9) ∧ SKX s9 n' ni' lw' we' f' g' nf' ∧ Z3) ∨ ((¬ (0 ≤ x ∧ x ≤ t) ∨ ∃ e9 : Int × Int, R = .inl e9) ∧ (n' = n ∧ X1) ∧ Z1 ∧ Z2 ∧ nf' = nf ∧ Z4))
    (rf : (((0 ≤ x ∧ x ≤ u) ∧ ∃ (q9 : Int) (s9 : XS), R' = .inr (q9, s9) ∧ xNr Mf 0 s9.2.2.2.2.2.2.2 s9.1) ∨ ((¬ (0 ≤ x ∧ x ≤ u) ∨ ∃ e9 : Int × Int, R' = .inl e9) ∧ ∀ e : Int, 0 ≤ e → e < 6 → Mf e.toNat = Nf e.toNat)) ∧ X2) : NME n' nf' Mf 0 := by
  subst hu
  rcases cf with ⟨ok, q, s, h1, h2, -⟩ | ⟨c, ⟨rfl, -⟩, -, -, rfl, -⟩
  · rcases rf.1 with ⟨-, q2, s2, k1, k2⟩ | ⟨k, -⟩
    · rw [hR ok, k1] at h1
      injection h1 with h3
      injection h3 with h4 h5
      rw [← h5] at h2
      obtain ⟨a1, -, -, -, -, -, aN⟩ := h2
      exact ⟨s2.2.2.2.2.2.2.2, aN, by rw [← a1]; exact k2⟩
    · rcases k with k | ⟨e, k⟩
      · exact absurd ok k
      · rw [hR ok, k] at h1
        exact absurd h1 (by intro h; injection h)
  · rcases rf.1 with ⟨ok, q2, s2, k1, k2⟩ | ⟨-, k⟩
    · rcases c with c | ⟨e, c⟩
      · exact absurd ok c
      · rw [hR ok, k1] at c
        exact absurd c (by intro h; injection h)
    · exact w.keep (fun e p r => k e p (by omega)) hn
end

section
/-- a row, 0 outside its range -/
def cut (n : Int) (F : Int → Int) : Int → Int := fun e => if 0 ≤ e ∧ e < n then F e else 0
theorem cut_in {n e : Int} {F : Int → Int} (h : 0 ≤ e ∧ e < n) : cut n F e = F e := if_pos h
theorem cut_eq {n : Int} {F G : Int → Int} (h : ∀ e : Int, 0 ≤ e → e < n → F e = G e) : cut n F = cut n G := by
  funext e
  unfold cut
  by_cases c : 0 ≤ e ∧ e < n
  · rw [if_pos c, if_pos c]; exact h e c.1 c.2
  · rw [if_neg c, if_neg c]
/-- a row that grows by one -/
theorem cut_ext {n v : Int} {F G : Int → Int} (hn : 0 ≤ n) (hv : G n = v) (h : ∀ e : Int, 0 ≤ e → e < n → G e = F e) : cut (n + 1) G = xUp (cut n F) n v := by
  funext e
  unfold cut xUp
  by_cases c : e = n
  · rw [if_pos c, if_pos (by omega), c]; exact hv
  · rw [if_neg c]
    show (if 0 ≤ e ∧ e < n + 1 then G e else 0) = (if 0 ≤ e ∧ e < n then F e else 0)
    by_cases d : 0 ≤ e ∧ e < n
    · rw [if_pos d, if_pos (by omega)]; exact h e d.1 d.2
    · rw [if_neg d, if_neg (by omega)]
/-- a row that changes at one place -/
theorem cut_set {n i v : Int} {F G : Int → Int} (hi : 0 ≤ i ∧ i < n) (hv : G i = v) (h : ∀ e : Int, 0 ≤ e → e < n → ¬ e = i → G e = F e) : cut n G = xUp (cut n F) i v := by
  funext e
  unfold cut xUp
  by_cases c : e = i
  · rw [if_pos c, if_pos (by omega), c]; exact hv
  · rw [if_neg c]
    show (if 0 ≤ e ∧ e < n then G e else 0) = (if 0 ≤ e ∧ e < n then F e else 0)
    by_cases d : 0 ≤ e ∧ e < n
    · rw [if_pos d, if_pos d]; exact h e d.1 d.2 c
    · rw [if_neg d, if_neg d]
def itF {α : Type} (f : α → α) : Nat → α → α
  | 0, a => a
  | k + 1, a => f (itF f k a)
theorem itF_s {α : Type} {f : α → α} {a : α} {i : Int} (hi : 0 ≤ i) : itF f (i + 1).toNat a = f (itF f i.toNat a) := by
  rw [show (i + 1).toNat = i.toNat + 1 by omega]
  rfl
theorem itF_add {α : Type} {f : α → α} (k : Nat) : ∀ (j : Nat) (a : α), itF f (j + k) a = itF f j (itF f k a)
  | 0, a => by rw [Nat.zero_add]; rfl
  | j + 1, a => by rw [show j + 1 + k = (j + k) + 1 by omega]; exact congrArg f (itF_add k j a)
theorem itF_fix {α : Type} {f : α → α} {a : α} (h : f a = a) : ∀ k : Nat, itF f k a = a
  | 0 => rfl
  | k + 1 => (congrArg f (itF_fix h k)).trans h
/-- what a road leads to, that stays -/
def isRn_ {α : Type} (f : α → α) (a b : α) : Prop := (∃ t : Nat, b = itF f t a) ∧ f b = b
theorem isRn_eq {α : Type} {f : α → α} {a b c : α} (h : isRn_ f a b) (g : isRn_ f a c) : b = c := by
  obtain ⟨⟨t, rfl⟩, h2⟩ := h
  obtain ⟨⟨u, rfl⟩, g2⟩ := g
  rcases Nat.le_total t u with q | q
  · obtain ⟨d, rfl⟩ := Nat.exists_eq_add_of_le q
    rw [Nat.add_comm t d, itF_add, itF_fix h2]
  · obtain ⟨d, rfl⟩ := Nat.exists_eq_add_of_le q
    rw [Nat.add_comm u d, itF_add, itF_fix g2]
/-- what surrounds a life: rocks, law, arrivals, what is seen, ranks -/
abbrev EV_ : Type := Int × Int × (Int → Int → Int → Int) × (Int → Int → Int → Int) × (Int → Int)
/-- a course: week, orders, what is worn by weeks, givers, weeks of orders -/
abbrev LS_ : Type := Int × Int × (Int → Int) × (Int → Int) × (Int → Int)
/-- a run: row, course, what is left of loops, drawn, steps, missed, weeks, turned, ordered, left -/
abbrev RS_ : Type := Int × LS_ × (Int → Int) × Int × Int × Int × Int × Int × Int × Int
noncomputable def cAr (f g : Nat → Int32) (n ni : Int) : Int → Int → Int → Int := fun r k o => if (0 ≤ r ∧ r < n) ∧ (0 ≤ o ∧ o < n) then arF f g ni r k o else 0
noncomputable def cSn (f g : Nat → Int32) (n ni : Int) : Int → Int → Int → Int := fun r o w => if (0 ≤ r ∧ r < n) ∧ (0 ≤ o ∧ o < n) then snF f g ni r o w else 0
def cRk (f : Nat → Int32) (n : Int) : Int → Int := fun r => if 0 ≤ r ∧ r < n then gz f ((r * 6) + 3) else 0
noncomputable def eC (f g : Nat → Int32) (n ni lw : Int) : EV_ := (n, lw, cAr f g n ni, cSn f g n ni, cRk f n)
/-- a bit of what is worn -/
def wB (z r : Int) : Int := (wb (iZ z) (iZ r)).toInt
theorem wB_eq {z r x : Int} (h : iZ x = wb (iZ z) (iZ r)) (hx : x = 0 ∨ x = 1) : x = wB z r := by
  unfold wB
  rw [← h, iZ_ti (by omega)]
/-- more of those that are seen wear it: the new one less the old one -/
def mrF (e : EV_) (wk : Int) (W : Int → Int) (r : Int) : Nat → Int
  | 0 => 0
  | k + 1 => mrF e wk W r k + (if (k : Int) = r ∨ e.2.2.2.1 r k (wk + 1) = -1 then 0 else if wB (W (e.2.2.2.1 r k (wk + 1))) k = 1 then 1 else -1)
theorem mrF_s {e : EV_} {wk r i : Int} {W : Int → Int} (hi : 0 ≤ i) : mrF e wk W r (i + 1).toNat = mrF e wk W r i.toNat + (if i = r ∨ e.2.2.2.1 r i (wk + 1) = -1 then 0 else if wB (W (e.2.2.2.1 r i (wk + 1))) i = 1 then 1 else -1) := by
  obtain ⟨k, rfl⟩ := Int.eq_ofNat_of_zero_le hi
  rfl
def nxP (e : EV_) (wk : Int) (W : Int → Int) (r : Int) : Prop := 0 < mrF e wk W r e.1.toNat ∨ (mrF e wk W r e.1.toNat = 0 ∧ wB (W wk) r = 1)
noncomputable def nxV (e : EV_) (wk : Int) (W : Int → Int) : Int := (bS (nxP e wk W) e.1.toNat).toInt
/-- a week goes by: the week, what is worn -/
noncomputable def wkF (e : EV_) (c : Int × (Int → Int)) : Int × (Int → Int) := if c.1 < 400 then (c.1 + 1, xUp c.2 (c.1 + 1) (nxV e c.1 c.2)) else c
theorem wkF_y {e : EV_} {c : Int × (Int → Int)} (h : c.1 < 400) : wkF e c = (c.1 + 1, xUp c.2 (c.1 + 1) (nxV e c.1 c.2)) := if_pos h
theorem wkF_n {e : EV_} {c : Int × (Int → Int)} (h : ¬ c.1 < 400) : wkF e c = c := if_neg h
/-- weeks go by -/
noncomputable def psF (e : EV_) (m : Int) (c : Int × (Int → Int)) : Int × (Int → Int) := itF (wkF e) m.toNat c
theorem psF_s {e : EV_} {c : Int × (Int → Int)} {m : Int} (hm : 0 ≤ m) : psF e (m + 1) c = wkF e (psF e m c) := itF_s hm
/-- once it is WEEK 400 no more goes by -/
theorem psF_top {e : EV_} {c : Int × (Int → Int)} {i m : Int} (hi : 0 ≤ i ∧ i ≤ m) (h : ¬ (psF e i c).1 < 400) : psF e m c = psF e i c := by
  obtain ⟨d, hd⟩ := Int.eq_ofNat_of_zero_le (show 0 ≤ m - i by omega)
  have key : ∀ k : Nat, psF e (i + k) c = psF e i c := by
    intro k
    induction k with
    | zero => rw [show i + ((0 : Nat) : Int) = i by omega]
    | succ k ih => rw [show i + ((k + 1 : Nat) : Int) = (i + k) + 1 by omega, psF_s (by omega), ih, wkF_n h]
  rw [show m = i + (d : Int) by omega]
  exact key d
/-- a course behind so many weeks -/
noncomputable def plF (e : EV_) (m : Int) (L : LS_) : LS_ := ((psF e m (L.1, L.2.2.1)).1, L.2.1, (psF e m (L.1, L.2.2.1)).2, L.2.2.2.1, L.2.2.2.2)
/-- an order more -/
def odF (x : Int) (L : LS_) : LS_ := (L.1, L.2.1 + 1, L.2.2.1, xUp L.2.2.2.1 L.2.1 x, xUp L.2.2.2.2 L.2.1 L.1)
/-- when a rock knows an order -/
noncomputable def knF (e : EV_) (L : LS_) (o r : Int) : Int := nwK e.2.2.1 e.1 (L.2.2.2.1 o) (L.2.2.2.2 o) r
noncomputable def wtF (e : EV_) (L : LS_) (r o : Int) : Int := if e.2.1 = 0 then knF e L o r else if e.2.1 = 1 then -(knF e L o r) else if e.2.1 = 2 then -(e.2.2.2.2 (L.2.2.2.1 o)) else L.2.2.2.2 o
/-- which rules, of the first k -/
noncomputable def rlF (e : EV_) (L : LS_) (r w : Int) : Nat → Int
  | 0 => -1
  | k + 1 => if knF e L k r ≤ w ∧ (rlF e L r w k = -1 ∨ wtF e L r k < wtF e L r (rlF e L r w k)) then (k : Int) else rlF e L r w k
theorem rlF_s {e : EV_} {L : LS_} {r w i : Int} (hi : 0 ≤ i) : (knF e L i r ≤ w ∧ (rlF e L r w i.toNat = -1 ∨ wtF e L r i < wtF e L r (rlF e L r w i.toNat)) ∧ rlF e L r w (i + 1).toNat = i) ∨ (¬ (knF e L i r ≤ w ∧ (rlF e L r w i.toNat = -1 ∨ wtF e L r i < wtF e L r (rlF e L r w i.toNat))) ∧ rlF e L r w (i + 1).toNat = rlF e L r w i.toNat) := by
  obtain ⟨k, rfl⟩ := Int.eq_ofNat_of_zero_le hi
  by_cases c : knF e L k r ≤ w ∧ (rlF e L r w k = -1 ∨ wtF e L r k < wtF e L r (rlF e L r w k))
  · exact Or.inl ⟨c.1, c.2, if_pos c⟩
  · exact Or.inr ⟨c, if_neg c⟩
noncomputable def ruF (e : EV_) (L : LS_) (r w : Int) : Int := rlF e L r w L.2.1.toNat
theorem rlF_rg {e : EV_} {L : LS_} {r w : Int} (k : Nat) : -1 ≤ rlF e L r w k ∧ rlF e L r w k < k ∨ rlF e L r w k = -1 := by
  induction k with
  | zero => exact Or.inr rfl
  | succ k ih =>
    have s := rlF_s (e := e) (L := L) (r := r) (w := w) (i := (k : Int)) (by omega)
    have h1 : ((k : Int) + 1).toNat = k + 1 := by omega
    have h2 : ((k : Int)).toNat = k := rfl
    rw [h1, h2] at s
    rcases s with ⟨-, -, q⟩ | ⟨-, q⟩
    · rw [q]; exact Or.inl ⟨by omega, by omega⟩
    · rw [q]; omega
/-- a rock wears this now -/
def dsV (z r b : Int) : Int := ((iZ z &&& ((1 <<< (iZ r &&& 31)) ^^^ (-1))) ||| (iZ b <<< (iZ r &&& 31))).toInt
def dsF (r b : Int) (L : LS_) : LS_ := (L.1, L.2.1, xUp L.2.2.1 L.1 (dsV (L.2.2.1 L.1) r b), L.2.2.2.1, L.2.2.2.2)
/-- its fashion is turned round -/
def xoV (z r : Int) : Int := (iZ z ^^^ (1 <<< (iZ r &&& 31))).toInt
def drN (d : Int) : Nat → Int
  | 0 => d
  | k + 1 => (drN d k * 2893 + 11093) % 65536
def chX (d c s : Int) : Nat → Int
  | 0 => s
  | k + 1 => if drN d (k + 1) / 8 % 16 < c then xoV (chX d c s k) (k : Int) else chX d c s k
def chN (d c : Int) : Nat → Int
  | 0 => 0
  | k + 1 => chN d c k + (if drN d (k + 1) / 8 % 16 < c then 1 else 0)
theorem ch_s {d c s i : Int} (hi : 0 ≤ i) : drN d (i + 1).toNat = (drN d i.toNat * 2893 + 11093) % 65536 ∧ ((drN d (i + 1).toNat / 8 % 16 < c ∧ chX d c s (i + 1).toNat = xoV (chX d c s i.toNat) i ∧ chN d c (i + 1).toNat = chN d c i.toNat + 1) ∨ (¬ drN d (i + 1).toNat / 8 % 16 < c ∧ chX d c s (i + 1).toNat = chX d c s i.toNat ∧ chN d c (i + 1).toNat = chN d c i.toNat)) := by
  obtain ⟨k, rfl⟩ := Int.eq_ofNat_of_zero_le hi
  refine ⟨rfl, ?_⟩
  have h1 : ((k : Int) + 1).toNat = k + 1 := by omega
  have h2 : ((k : Int)).toNat = k := rfl
  rw [h1, h2]
  by_cases q : drN d (k + 1) / 8 % 16 < c
  · exact Or.inl ⟨q, if_pos q, by show chN d c k + (if drN d (k + 1) / 8 % 16 < c then 1 else 0) = _; rw [if_pos q]⟩
  · exact Or.inr ⟨q, if_neg q, by show chN d c k + (if drN d (k + 1) / 8 % 16 < c then 1 else 0) = _; rw [if_neg q, Int.add_zero]⟩
def chF (e : EV_) (d c : Int) (L : LS_) : LS_ := (L.1, L.2.1, xUp L.2.2.1 L.1 (chX d c (L.2.2.1 L.1) e.1.toNat), L.2.2.2.1, L.2.2.2.2)
/-- what a when asks -/
def hoP (e : EV_) (L : LS_) (a b c : Int) : Prop := (a = 7 ∧ wB (L.2.2.1 L.1) b = 1) ∨ (a = 20 ∧ ¬ ruF e L c L.1 = -1 ∧ L.2.2.2.1 (ruF e L c L.1) = b) ∨ ((¬ a = 7 ∧ ¬ a = 20) ∧ ((b = 60 ∧ L.1 < c) ∨ (b = 62 ∧ L.1 > c) ∨ ((¬ b = 60 ∧ ¬ b = 62) ∧ L.1 = c)))
noncomputable def hoZ (e : EV_) (L : LS_) (a b c : Int) : Int := @ite Int (hoP e L a b c) (Classical.propDecidable _) 1 0
theorem hoZ_y {e : EV_} {L : LS_} {a b c : Int} (h : hoP e L a b c) : hoZ e L a b c = 1 := @if_pos _ (Classical.propDecidable _) h _ _ _
theorem hoZ_n {e : EV_} {L : LS_} {a b c : Int} (h : ¬ hoP e L a b c) : hoZ e L a b c = 0 := @if_neg _ (Classical.propDecidable _) h _ _ _
/-- a step, at its row; the steps are counted already -/
noncomputable def yT (e : EV_) (P : PR_) : RS_ → RS_
  | (k, L, q, d, st, ms, we, tu, o0, le) =>
    if P.2.1 k = 15 then (k + 1, plF e (P.2.2.1 k) L, q, d, st, ms + (if (plF e (P.2.2.1 k) L).1 - L.1 < P.2.2.1 k then 1 else 0), we + ((plF e (P.2.2.1 k) L).1 - L.1), tu, o0, le)
    else if P.2.1 k = 16 then (k + 1, dsF (P.2.2.1 k) (P.2.2.2.1 k) L, q, d, st, ms, we, tu, o0, le)
    else if P.2.1 k = 17 then (if L.2.1 < 20 then (k + 1, odF (P.2.2.1 k) L, q, d, st, ms, we, tu, o0 + 1, le) else (k + 1, L, q, d, st, ms + 1, we, tu, o0, le))
    else if P.2.1 k = 18 then (k + 1, chF e d (P.2.2.1 k) L, q, drN d e.1.toNat, st, ms, we, tu + chN d (P.2.2.1 k) e.1.toNat, o0, le)
    else if P.2.1 k = 19 then (if hoZ e L (P.2.2.1 k) (P.2.2.2.1 k) (P.2.2.2.2.1 k) = 1 then k + 1 else P.2.2.2.2.2 k + 1, L, q, d, st, ms, we, tu, o0, le)
    else if P.2.1 k = 22 then (k + 1, L, xUp q k (P.2.2.1 k - 1), d, st, ms, we, tu, o0, le)
    else (P.1, L, q, d, st, ms, we, tu, o0, le)
/-- an end, at its row -/
def yE (P : PR_) : RS_ → RS_
  | (k, L, q, d, st, ms, we, tu, o0, le) => if P.2.1 (P.2.2.2.2.2 k) = 22 ∧ 0 < q (P.2.2.2.2.2 k) then (P.2.2.2.2.2 k + 1, L, xUp q (P.2.2.2.2.2 k) (q (P.2.2.2.2.2 k) - 1), d, st, ms, we, tu, o0, le) else (k + 1, L, q, d, st, ms, we, tu, o0, le)
/-- a turn: an end, or a step; what stays is lived -/
noncomputable def yS (e : EV_) (P : PR_) : RS_ → RS_
  | (k, L, q, d, st, ms, we, tu, o0, le) =>
    if le = 1 ∨ P.1 ≤ k then (k, L, q, d, st, ms, we, tu, o0, le)
    else if P.2.1 k = 23 then yE P (k, L, q, d, st, ms, we, tu, o0, le)
    else if 200 ≤ st then (k, L, q, d, st, ms, we, tu, o0, 1)
    else yT e P (k, L, q, d, st + 1, ms, we, tu, o0, le)
section YS
variable {e : EV_} {P : PR_} {k d st ms we tu o0 le : Int} {L : LS_} {q : Int → Int}
theorem yS_f (h : le = 1 ∨ P.1 ≤ k) : yS e P (k, L, q, d, st, ms, we, tu, o0, le) = (k, L, q, d, st, ms, we, tu, o0, le) := if_pos h
theorem yS_e (h : ¬ le = 1) (h2 : k < P.1) (h3 : P.2.1 k = 23) : yS e P (k, L, q, d, st, ms, we, tu, o0, le) = yE P (k, L, q, d, st, ms, we, tu, o0, le) := by
  show (if le = 1 ∨ P.1 ≤ k then _ else _) = _
  rw [if_neg (by omega), if_pos h3]
theorem yS_l (h : ¬ le = 1) (h2 : k < P.1) (h3 : ¬ P.2.1 k = 23) (h4 : 200 ≤ st) : yS e P (k, L, q, d, st, ms, we, tu, o0, le) = (k, L, q, d, st, ms, we, tu, o0, 1) := by
  show (if le = 1 ∨ P.1 ≤ k then _ else _) = _
  rw [if_neg (by omega), if_neg h3, if_pos h4]
theorem yS_t (h : ¬ le = 1) (h2 : k < P.1) (h3 : ¬ P.2.1 k = 23) (h4 : ¬ 200 ≤ st) : yS e P (k, L, q, d, st, ms, we, tu, o0, le) = yT e P (k, L, q, d, st + 1, ms, we, tu, o0, le) := by
  show (if le = 1 ∨ P.1 ≤ k then _ else _) = _
  rw [if_neg (by omega), if_neg h3, if_neg h4]
theorem yE_y (h : P.2.1 (P.2.2.2.2.2 k) = 22 ∧ 0 < q (P.2.2.2.2.2 k)) : yE P (k, L, q, d, st, ms, we, tu, o0, le) = (P.2.2.2.2.2 k + 1, L, xUp q (P.2.2.2.2.2 k) (q (P.2.2.2.2.2 k) - 1), d, st, ms, we, tu, o0, le) := if_pos h
theorem yE_n (h : ¬ (P.2.1 (P.2.2.2.2.2 k) = 22 ∧ 0 < q (P.2.2.2.2.2 k))) : yE P (k, L, q, d, st, ms, we, tu, o0, le) = (k + 1, L, q, d, st, ms, we, tu, o0, le) := if_neg h
theorem yT_15 (h : P.2.1 k = 15) : yT e P (k, L, q, d, st, ms, we, tu, o0, le) = (k + 1, plF e (P.2.2.1 k) L, q, d, st, ms + (if (plF e (P.2.2.1 k) L).1 - L.1 < P.2.2.1 k then 1 else 0), we + ((plF e (P.2.2.1 k) L).1 - L.1), tu, o0, le) := if_pos h
theorem yT_16 (h : P.2.1 k = 16) : yT e P (k, L, q, d, st, ms, we, tu, o0, le) = (k + 1, dsF (P.2.2.1 k) (P.2.2.2.1 k) L, q, d, st, ms, we, tu, o0, le) := by
  show (if P.2.1 k = 15 then _ else _) = _
  rw [if_neg (by omega), if_pos h]
theorem yT_17 (h : P.2.1 k = 17) : yT e P (k, L, q, d, st, ms, we, tu, o0, le) = (if L.2.1 < 20 then (k + 1, odF (P.2.2.1 k) L, q, d, st, ms, we, tu, o0 + 1, le) else (k + 1, L, q, d, st, ms + 1, we, tu, o0, le)) := by
  show (if P.2.1 k = 15 then _ else _) = _
  rw [if_neg (by omega), if_neg (by omega), if_pos h]
theorem yT_18 (h : P.2.1 k = 18) : yT e P (k, L, q, d, st, ms, we, tu, o0, le) = (k + 1, chF e d (P.2.2.1 k) L, q, drN d e.1.toNat, st, ms, we, tu + chN d (P.2.2.1 k) e.1.toNat, o0, le) := by
  show (if P.2.1 k = 15 then _ else _) = _
  rw [if_neg (by omega), if_neg (by omega), if_neg (by omega), if_pos h]
theorem yT_19 (h : P.2.1 k = 19) : yT e P (k, L, q, d, st, ms, we, tu, o0, le) = (if hoZ e L (P.2.2.1 k) (P.2.2.2.1 k) (P.2.2.2.2.1 k) = 1 then k + 1 else P.2.2.2.2.2 k + 1, L, q, d, st, ms, we, tu, o0, le) := by
  show (if P.2.1 k = 15 then _ else _) = _
  rw [if_neg (by omega), if_neg (by omega), if_neg (by omega), if_neg (by omega), if_pos h]
theorem yT_22 (h : P.2.1 k = 22) : yT e P (k, L, q, d, st, ms, we, tu, o0, le) = (k + 1, L, xUp q k (P.2.2.1 k - 1), d, st, ms, we, tu, o0, le) := by
  show (if P.2.1 k = 15 then _ else _) = _
  rw [if_neg (by omega), if_neg (by omega), if_neg (by omega), if_neg (by omega), if_neg (by omega), if_pos h]
theorem yT_24 (h : ¬ P.2.1 k = 15 ∧ ¬ P.2.1 k = 16 ∧ ¬ P.2.1 k = 17 ∧ ¬ P.2.1 k = 18 ∧ ¬ P.2.1 k = 19 ∧ ¬ P.2.1 k = 22) : yT e P (k, L, q, d, st, ms, we, tu, o0, le) = (P.1, L, q, d, st, ms, we, tu, o0, le) := by
  show (if P.2.1 k = 15 then _ else _) = _
  rw [if_neg (by omega), if_neg (by omega), if_neg (by omega), if_neg (by omega), if_neg (by omega), if_neg (by omega)]
end YS
/-- what is left of all loops -/
def smQ (q : Int → Int) : Nat → Int
  | 0 => 0
  | m + 1 => smQ q m + q (m : Int)
theorem smQ_up (q : Int → Int) {o v : Int} (m : Nat) (ho : 0 ≤ o) : smQ (xUp q o v) m = smQ q m + (if o < (m : Int) then v - q o else 0) := by
  induction m with
  | zero => rw [if_neg (by omega)]; rfl
  | succ m ih =>
    show smQ (xUp q o v) m + xUp q o v (m : Int) = smQ q m + q (m : Int) + _
    rw [ih]
    unfold xUp
    by_cases c : (m : Int) = o
    · rw [if_pos c, if_neg (by omega), if_pos (by omega), c]; omega
    · rw [if_neg c]
      by_cases d : o < (m : Int)
      · rw [if_pos d, if_pos (by omega)]; omega
      · rw [if_neg d, if_neg (by omega)]; omega
theorem smQ_b {q : Int → Int} (m : Nat) (h : ∀ o : Int, 0 ≤ o → o < (m : Int) → 0 ≤ q o ∧ q o ≤ 98) : 0 ≤ smQ q m ∧ smQ q m ≤ 98 * m := by
  induction m with
  | zero => exact ⟨Int.le_refl _, Int.le_refl _⟩
  | succ m ih =>
    have a := ih (fun o x y => h o x (by omega))
    have b := h m (by omega) (by omega)
    show 0 ≤ smQ q m + q (m : Int) ∧ smQ q m + q (m : Int) ≤ 98 * ((m : Int) + 1)
    omega
/-- how many turns there can be at most from here on -/
def phQ (P : PR_) : RS_ → Int
  | (k, _, q, _, st, _, _, _, _, _) => (200 - st) * 3070 + 31 * smQ q 60 + enN P.2.1 k 60
def okQ (q : Int → Int) : Prop := ∀ o : Int, 0 ≤ o → o < 60 → 0 ≤ q o ∧ q o ≤ 98
theorem ph_e {P : PR_} {k d st ms we tu o0 le : Int} {L : LS_} {q : Int → Int} (hP : okP P) (hq : okQ q) (hk : 0 ≤ k ∧ k < P.1) (h : P.2.1 k = 23) : phQ P (yE P (k, L, q, d, st, ms, we, tu, o0, le)) + 1 ≤ phQ P (k, L, q, d, st, ms, we, tu, o0, le) := by
  obtain ⟨h1, h2, h3⟩ := hP
  have p := (h3 k hk.1 hk.2).2.1 (Or.inr h)
  by_cases c : P.2.1 (P.2.2.2.2.2 k) = 22 ∧ 0 < q (P.2.2.2.2.2 k)
  · rw [yE_y c]
    have s := smQ_up q (o := P.2.2.2.2.2 k) (v := q (P.2.2.2.2.2 k) - 1) 60 p.1
    rw [if_pos (by omega)] at s
    have a := enN_le P.2.1 (k := P.2.2.2.2.2 k + 1) (j := 0) (by omega) 60
    have b := enN_0 P.2.1 k 60
    show (200 - st) * 3070 + 31 * smQ (xUp q (P.2.2.2.2.2 k) (q (P.2.2.2.2.2 k) - 1)) 60 + enN P.2.1 (P.2.2.2.2.2 k + 1) 60 + 1 ≤ (200 - st) * 3070 + 31 * smQ q 60 + enN P.2.1 k 60
    omega
  · rw [yE_n c]
    have s := enN_s P.2.1 (k := k) 60 ⟨hk.1, by omega⟩ h
    show (200 - st) * 3070 + 31 * smQ q 60 + enN P.2.1 (k + 1) 60 + 1 ≤ (200 - st) * 3070 + 31 * smQ q 60 + enN P.2.1 k 60
    omega
theorem ph_b {P : PR_} {k j d d' st st' ms we tu o0 le ms' we' tu' o0' le' : Int} {L L' : LS_} {q q' : Int → Int} (hP : okP P) (hj : 0 ≤ j) (hs : st' = st + 1) (hq : smQ q' 60 ≤ smQ q 60 + 98) : phQ P (j, L', q', d', st', ms', we', tu', o0', le') + 1 ≤ phQ P (k, L, q, d, st, ms, we, tu, o0, le) := by
  have a := enN_le P.2.1 (k := j) (j := 0) hj 60
  have b := enN_0 P.2.1 k 60
  have c := hP.2.1
  show (200 - st') * 3070 + 31 * smQ q' 60 + enN P.2.1 j 60 + 1 ≤ (200 - st) * 3070 + 31 * smQ q 60 + enN P.2.1 k 60
  omega
theorem ph_0 {P : PR_} {k d ms we tu o0 le : Int} {L : LS_} {q : Int → Int} (hP : okP P) (hk : 0 ≤ k) (hq : okQ q) : phQ P (k, L, q, d, 0, ms, we, tu, o0, le) ≤ 800000 := by
  have a := enN_le P.2.1 (k := k) (j := 0) hk 60
  have b := smQ_b (q := q) 60 hq
  have c := hP.2.1
  show (200 - 0) * 3070 + 31 * smQ q 60 + enN P.2.1 k 60 ≤ 800000
  omega
theorem ph_n {P : PR_} {k d st ms we tu o0 le : Int} {L : LS_} {q : Int → Int} (hs : st ≤ 200) (hq : okQ q) : 0 ≤ phQ P (k, L, q, d, st, ms, we, tu, o0, le) := by
  have a := enN_0 P.2.1 k 60
  have b := smQ_b (q := q) 60 hq
  show 0 ≤ (200 - st) * 3070 + 31 * smQ q 60 + enN P.2.1 k 60
  omega
end
