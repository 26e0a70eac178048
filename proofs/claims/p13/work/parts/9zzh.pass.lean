section
/-- the class's course -/
def cL (wk od : Int) (wf gf sf : Nat → Int32) : LS_ := (wk, od, cut (wk + 1) (gz wf), cut od (gz gf), cut od (gz sf))
theorem sn_lt {f g : Nat → Int32} {n ni r o w : Int} (hx : FXI f n) (hr : 0 ≤ r ∧ r < n) (ho : 0 ≤ o ∧ o < n) (hne : ¬ o = r) (hw : 0 ≤ w ∧ w ≤ 400) : -1 ≤ snF f g ni r o w ∧ snF f g ni r o w < w := by
  obtain ⟨h1, h2, -⟩ := snF_sp (f := f) (g := g) (ni := ni) (r := r) (o := o) (w := w) (by omega)
  refine ⟨h1.1, ?_⟩
  by_cases c : snF f g ni r o w = w
  · have a := h2 (by omega)
    have b := arF_c (g := g) (ni := ni) (w := w) hx ho hr hne (by omega)
    rw [c] at a
    omega
  · omega
theorem cSn_in {f g : Nat → Int32} {n ni r o w : Int} (hr : 0 ≤ r ∧ r < n) (ho : 0 ≤ o ∧ o < n) : cSn f g n ni r o w = snF f g ni r o w := if_pos ⟨hr, ho⟩
theorem cAr_in {f g : Nat → Int32} {n ni r o w : Int} (hr : 0 ≤ r ∧ r < n) (ho : 0 ≤ o ∧ o < n) : cAr f g n ni r w o = arF f g ni r w o := if_pos ⟨hr, ho⟩
theorem cRk_in {f : Nat → Int32} {n r : Int} (hr : 0 ≤ r ∧ r < n) : cRk f n r = gz f ((r * 6) + 3) := if_pos hr
theorem dsV_eq {a r v z1 z2 z3 z4 z5 : Int} (h1 : iZ z1 = iZ 1 <<< (iZ r &&& 31)) (h2 : iZ z2 = iZ z1 ^^^ iZ (-1)) (h3 : iZ z3 = iZ a &&& iZ z2) (h4 : iZ z4 = iZ v <<< (iZ r &&& 31)) (h5 : iZ z5 = iZ z3 ||| iZ z4) (hz : -2147483648 ≤ z5 ∧ z5 < 2147483648) : z5 = dsV a r v := by
  have e : (iZ z5).toInt = z5 := iZ_ti hz
  rw [← e, h5, h3, h4, h2, h1]
  rfl
theorem xoV_eq {a r z1 z2 : Int} (h1 : iZ z1 = iZ 1 <<< (iZ r &&& 31)) (h2 : iZ z2 = iZ a ^^^ iZ z1) (hz : -2147483648 ≤ z2 ∧ z2 < 2147483648) : z2 = xoV a r := by
  have e : (iZ z2).toInt = z2 := iZ_ti hz
  rw [← e, h2, h1]
  rfl
theorem nxV_eq {e : EV_} {wk z : Int} {W : Int → Int} (h : iZ z = bS (nxP e wk W) e.1.toNat) (hz : -2147483648 ≤ z ∧ z < 2147483648) : z = nxV e wk W := by
  unfold nxV
  rw [← h, iZ_ti hz]
theorem cmr {f g wf : Nat → Int32} {n ni lw wk r i : Int} (hx : FXI f n) (hr : 0 ≤ r ∧ r < n) (hi : 0 ≤ i ∧ i < n) (hw : 0 ≤ wk ∧ wk < 400) : ((i = r ∨ snF f g ni r i (wk + 1) = -1) ∧ mrF (eC f g n ni lw) wk (cut (wk + 1) (gz wf)) r (i + 1).toNat = mrF (eC f g n ni lw) wk (cut (wk + 1) (gz wf)) r i.toNat) ∨ ((¬ i = r ∧ ¬ snF f g ni r i (wk + 1) = -1) ∧ wB (gz wf (snF f g ni r i (wk + 1))) i = 1 ∧ mrF (eC f g n ni lw) wk (cut (wk + 1) (gz wf)) r (i + 1).toNat = mrF (eC f g n ni lw) wk (cut (wk + 1) (gz wf)) r i.toNat + 1) ∨ ((¬ i = r ∧ ¬ snF f g ni r i (wk + 1) = -1) ∧ ¬ wB (gz wf (snF f g ni r i (wk + 1))) i = 1 ∧ mrF (eC f g n ni lw) wk (cut (wk + 1) (gz wf)) r (i + 1).toNat = mrF (eC f g n ni lw) wk (cut (wk + 1) (gz wf)) r i.toNat - 1) := by
  have m := mrF_s (e := eC f g n ni lw) (wk := wk) (r := r) (i := i) (W := cut (wk + 1) (gz wf)) hi.1
  have e : (eC f g n ni lw).2.2.2.1 r i (wk + 1) = snF f g ni r i (wk + 1) := cSn_in hr hi
  rw [e] at m
  by_cases c : i = r ∨ snF f g ni r i (wk + 1) = -1
  · rw [if_pos c] at m
    exact Or.inl ⟨c, by omega⟩
  · have c1 : ¬ i = r ∧ ¬ snF f g ni r i (wk + 1) = -1 := ⟨fun q => c (Or.inl q), fun q => c (Or.inr q)⟩
    have s := sn_lt (g := g) (ni := ni) (w := wk + 1) hx hr hi c1.1 (by omega)
    rw [if_neg c, cut_in (show 0 ≤ snF f g ni r i (wk + 1) ∧ snF f g ni r i (wk + 1) < wk + 1 by omega)] at m
    by_cases b : wB (gz wf (snF f g ni r i (wk + 1))) i = 1
    · rw [if_pos b] at m
      exact Or.inr (Or.inl ⟨c1, b, m⟩)
    · rw [if_neg b] at m
      exact Or.inr (Or.inr ⟨c1, b, by omega⟩)
theorem nx_y {f g wf : Nat → Int32} {n ni lw wk r : Int} (hw : 0 ≤ wk) (h : 0 < mrF (eC f g n ni lw) wk (cut (wk + 1) (gz wf)) r n.toNat ∨ (mrF (eC f g n ni lw) wk (cut (wk + 1) (gz wf)) r n.toNat = 0 ∧ wB (gz wf wk) r = 1)) : nxP (eC f g n ni lw) wk (cut (wk + 1) (gz wf)) r := by
  rcases h with h | h
  · exact Or.inl h
  · refine Or.inr ⟨h.1, ?_⟩
    rw [cut_in ⟨hw, by omega⟩]
    exact h.2
theorem nx_n {f g wf : Nat → Int32} {n ni lw wk r : Int} (hw : 0 ≤ wk) (h : ¬ (0 < mrF (eC f g n ni lw) wk (cut (wk + 1) (gz wf)) r n.toNat ∨ (mrF (eC f g n ni lw) wk (cut (wk + 1) (gz wf)) r n.toNat = 0 ∧ wB (gz wf wk) r = 1))) : ¬ nxP (eC f g n ni lw) wk (cut (wk + 1) (gz wf)) r := fun q => by
  refine h ?_
  rcases q with q | q
  · exact Or.inl q
  · have q2 := q.2
    rw [cut_in ⟨hw, by omega⟩] at q2
    exact Or.inr ⟨q.1, q2⟩
theorem ps_step {e : EV_} {c : Int × (Int → Int)} {w3 i z : Int} {f3 f4 : Nat → Int32} (h : (w3, cut (w3 + 1) (gz f3)) = psF e i c) (hi : 0 ≤ i) (hw : 0 ≤ w3 ∧ w3 < 400) (hz : z = nxV e w3 (cut (w3 + 1) (gz f3))) (hg : f4 = upd f3 (iZ (w3 + 1)).toNatClampNeg (iZ z)) (hr : -2147483648 ≤ z ∧ z < 2147483648) : (w3 + 1, cut (w3 + 1 + 1) (gz f4)) = psF e (i + 1) c := by
  rw [psF_s hi, ← h, wkF_y (show (w3, cut (w3 + 1) (gz f3)).1 < 400 from hw.2)]
  show (w3 + 1, cut (w3 + 1 + 1) (gz f4)) = (w3 + 1, xUp (cut (w3 + 1) (gz f3)) (w3 + 1) (nxV e w3 (cut (w3 + 1) (gz f3))))
  rw [← hz, cut_ext (F := gz f3) (v := z) (by omega) (by rw [gz_up hg ⟨by omega, by omega⟩ hr (by omega), if_pos rfl]) (fun k a b => by rw [gz_up hg ⟨by omega, by omega⟩ hr a, if_neg (by omega)])]
theorem ps_top {e : EV_} {c : Int × (Int → Int)} {w3 i a : Int} {F : Int → Int} (h : (w3, F) = psF e i c) (hw : ¬ w3 < 400) (hi : 0 ≤ i ∧ i ≤ a) : (w3, F) = psF e a c := by
  rw [psF_top hi (by rw [← h]; exact hw)]
  exact h
/-- what the class keeps of orders is what is known of them -/
def KNC (f g : Nat → Int32) (n ni od : Int) (gf sf kf : Nat → Int32) : Prop := ∀ o r : Int, 0 ≤ o → o < od → 0 ≤ r → r < n → cF (gz kf ((o * 6) + r)) = nwK (cAr f g n ni) n (gz gf o) (gz sf o) r ∧ -1 ≤ gz kf ((o * 6) + r) ∧ gz kf ((o * 6) + r) ≤ 420
theorem KNC.kn {f g wf gf sf kf : Nat → Int32} {n ni lw wk od o r : Int} (h : KNC f g n ni od gf sf kf) (ho : 0 ≤ o ∧ o < od) (hr : 0 ≤ r ∧ r < n) : cF (gz kf ((o * 6) + r)) = knF (eC f g n ni lw) (cL wk od wf gf sf) o r := by
  rw [(h o r ho.1 ho.2 hr.1 hr.2).1]
  show nwK (cAr f g n ni) n (gz gf o) (gz sf o) r = nwK (cAr f g n ni) n (cut od (gz gf) o) (cut od (gz sf) o) r
  rw [cut_in ho, cut_in ho]
theorem KNC.c {f g gf sf kf : Nat → Int32} {n ni od o r : Int} (lw wk : Int) (wf : Nat → Int32) (h : KNC f g n ni od gf sf kf) (ho : 0 ≤ o ∧ o < od) (hr : 0 ≤ r ∧ r < n) : (gz kf ((o * 6) + r) = -1 ∧ knF (eC f g n ni lw) (cL wk od wf gf sf) o r = 1000000) ∨ (¬ gz kf ((o * 6) + r) = -1 ∧ knF (eC f g n ni lw) (cL wk od wf gf sf) o r = gz kf ((o * 6) + r) ∧ 0 ≤ gz kf ((o * 6) + r) ∧ gz kf ((o * 6) + r) ≤ 420) := by
  have a := h.kn (lw := lw) (wk := wk) (wf := wf) ho hr
  have b := cF_c (gz kf ((o * 6) + r))
  have c := (h o r ho.1 ho.2 hr.1 hr.2).2
  omega
theorem KNC.wt {f g gf sf kf : Nat → Int32} {n ni od o r : Int} (lw wk : Int) (wf : Nat → Int32) (h : KNC f g n ni od gf sf kf) (ho : 0 ≤ o ∧ o < od) (hr : 0 ≤ r ∧ r < n) (hg : rgI gf 0 (n - 1) od) (k : ¬ gz kf ((o * 6) + r) = -1) : (lw = 0 ∧ wtF (eC f g n ni lw) (cL wk od wf gf sf) r o = gz kf ((o * 6) + r)) ∨ (lw = 1 ∧ wtF (eC f g n ni lw) (cL wk od wf gf sf) r o = -(gz kf ((o * 6) + r))) ∨ (lw = 2 ∧ wtF (eC f g n ni lw) (cL wk od wf gf sf) r o = -(gz f ((gz gf o * 6) + 3))) ∨ ((¬ lw = 0 ∧ ¬ lw = 1 ∧ ¬ lw = 2) ∧ wtF (eC f g n ni lw) (cL wk od wf gf sf) r o = gz sf o) := by
  have a := h.c lw wk wf ho hr
  have e1 : (cL wk od wf gf sf).2.2.2.1 o = gz gf o := cut_in ho
  have e2 : (cL wk od wf gf sf).2.2.2.2 o = gz sf o := cut_in ho
  have r2 := hg o ho.1 ho.2
  have e3 : (eC f g n ni lw).2.2.2.2 (gz gf o) = gz f ((gz gf o * 6) + 3) := cRk_in ⟨by omega, by omega⟩
  have w : wtF (eC f g n ni lw) (cL wk od wf gf sf) r o = if lw = 0 then knF (eC f g n ni lw) (cL wk od wf gf sf) o r else if lw = 1 then -(knF (eC f g n ni lw) (cL wk od wf gf sf) o r) else if lw = 2 then -((eC f g n ni lw).2.2.2.2 ((cL wk od wf gf sf).2.2.2.1 o)) else (cL wk od wf gf sf).2.2.2.2 o := rfl
  rw [e1, e2, e3] at w
  by_cases c0 : lw = 0
  · rw [if_pos c0] at w; omega
  · rw [if_neg c0] at w
    by_cases c1 : lw = 1
    · rw [if_pos c1] at w; omega
    · rw [if_neg c1] at w
      by_cases c2 : lw = 2
      · rw [if_pos c2] at w; omega
      · rw [if_neg c2] at w; omega
theorem rlF_k {e : EV_} {L : LS_} {r w : Int} : ∀ k : Nat, ¬ rlF e L r w k = -1 → (0 ≤ rlF e L r w k ∧ rlF e L r w k < (k : Int)) ∧ knF e L (rlF e L r w k) r ≤ w
  | 0, h => absurd rfl h
  | k + 1, h => by
    have s := rlF_s (e := e) (L := L) (r := r) (w := w) (i := (k : Int)) (by omega)
    rw [show ((k : Int) + 1).toNat = k + 1 by omega, show ((k : Int)).toNat = k from rfl] at s
    rcases s with ⟨a, -, q⟩ | ⟨-, q⟩
    · rw [q]; exact ⟨by omega, a⟩
    · rw [q] at h ⊢
      have i := rlF_k k h
      exact ⟨by omega, i.2⟩
theorem KNC.add {f g gf sf kf gf' sf' kf' kn : Nat → Int32} {n ni od a wk : Int} {T B : Int → Int} (h : KNC f g n ni od gf sf kf) (hx : FXI f n) (hn : n ≤ 6) (ho : 0 ≤ od ∧ od < 20) (hg : gf' = upd gf (iZ od).toNatClampNeg (iZ a)) (hs : sf' = upd sf (iZ od).toNatClampNeg (iZ wk)) (hk : kf' = va_cpy kn kf (iZ 0).toNatClampNeg (iZ (od * 6)).toNatClampNeg (iZ 6).toNatClampNeg) (ha : 0 ≤ a ∧ a < n) (hw : 0 ≤ wk ∧ wk ≤ 400) (q : isNW (arF f g ni) n a wk (cK kn) T B) (rg : rgI kn (-1) 420 6) : KNC f g n ni (od + 1) gf' sf' kf' := by
  have hk1 : ∀ e : Int, 0 ≤ e → (e < od * 6 ∧ gz kf' e = gz kf e) ∨ (od * 6 ≤ e ∧ (e < od * 6 + 6 → gz kf' e = gz kn (e - od * 6))) := fun e h1 => by
    unfold gz
    rw [hk, zcl (e := 0) ⟨by omega, by omega⟩, zcl (e := od * 6) ⟨by omega, by omega⟩, zcl (e := 6) ⟨by omega, by omega⟩]
    unfold va_cpy
    by_cases c : e < od * 6
    · exact Or.inl ⟨c, by rw [if_neg (by omega)]⟩
    · refine Or.inr ⟨by omega, fun d => ?_⟩
      rw [if_pos ⟨by omega, by omega⟩, show (0 : Int).toNat + (e.toNat - (od * 6).toNat) = (e - od * 6).toNat by omega]
  intro o r h1 h2 h3 h4
  rw [gz_up hg ⟨by omega, by omega⟩ ⟨by omega, by omega⟩ h1, gz_up hs ⟨by omega, by omega⟩ ⟨by omega, by omega⟩ h1]
  by_cases c : o = od
  · rw [if_pos c, if_pos c]
    have e : gz kf' ((o * 6) + r) = gz kn r := by
      rcases hk1 ((o * 6) + r) (by omega) with p | p
      · omega
      · have := p.2 (by omega)
        rw [show (o * 6) + r - od * 6 = r by omega] at this
        exact this
    have z := rg r h3 (by omega)
    rw [e]
    refine ⟨?_, z⟩
    have q2 : isNW (cAr f g n ni) n a wk (cK kn) T B := isNW_like q (fun x k y a1 a2 a3 a4 => (cAr_in ⟨a1, a2⟩ ⟨a3, a4⟩).symm)
    have lt : later (cAr f g n ni) n := fun x k y a1 a2 a3 a4 a5 a6 a7 => by
      rw [cAr_in ⟨a1, a2⟩ ⟨a3, a4⟩]
      exact later_ar hx x k y a1 a2 a3 a4 a5 a6 a7
    exact nwK_eq lt q2 h3 h4
  · rw [if_neg c, if_neg c]
    have e : gz kf' ((o * 6) + r) = gz kf ((o * 6) + r) := by
      rcases hk1 ((o * 6) + r) (by omega) with p | p
      · exact p.2
      · omega
    rw [e]
    exact h o r h1 (by omega) h3 h4
theorem cL_od {wk od a : Int} {wf gf sf gf' sf' : Nat → Int32} (ho : 0 ≤ od ∧ od < 20) (hg : gf' = upd gf (iZ od).toNatClampNeg (iZ a)) (hs : sf' = upd sf (iZ od).toNatClampNeg (iZ wk)) (ha : -2147483648 ≤ a ∧ a < 2147483648) (hw : -2147483648 ≤ wk ∧ wk < 2147483648) : cL wk (od + 1) wf gf' sf' = odF a (cL wk od wf gf sf) := by
  show (wk, od + 1, cut (wk + 1) (gz wf), cut (od + 1) (gz gf'), cut (od + 1) (gz sf')) = (wk, od + 1, cut (wk + 1) (gz wf), xUp (cut od (gz gf)) od a, xUp (cut od (gz sf)) od wk)
  rw [cut_ext (F := gz gf) (v := a) ho.1 (by rw [gz_up hg ⟨by omega, by omega⟩ ha (by omega), if_pos rfl]) (fun k p q => by rw [gz_up hg ⟨by omega, by omega⟩ ha p, if_neg (by omega)]), cut_ext (F := gz sf) (v := wk) ho.1 (by rw [gz_up hs ⟨by omega, by omega⟩ hw (by omega), if_pos rfl]) (fun k p q => by rw [gz_up hs ⟨by omega, by omega⟩ hw p, if_neg (by omega)])]
theorem cL_ds {wk od r b : Int} {wf gf sf wf' : Nat → Int32} (hw : 0 ≤ wk ∧ wk ≤ 400) (h : wf' = upd wf (iZ wk).toNatClampNeg (iZ (dsV (gz wf wk) r b))) (hr : -2147483648 ≤ dsV (gz wf wk) r b ∧ dsV (gz wf wk) r b < 2147483648) : cL wk od wf' gf sf = dsF r b (cL wk od wf gf sf) := by
  show (wk, od, cut (wk + 1) (gz wf'), cut od (gz gf), cut od (gz sf)) = (wk, od, xUp (cut (wk + 1) (gz wf)) wk (dsV (cut (wk + 1) (gz wf) wk) r b), cut od (gz gf), cut od (gz sf))
  rw [cut_in (F := gz wf) (show 0 ≤ wk ∧ wk < wk + 1 by omega), cut_set (F := gz wf) (v := dsV (gz wf wk) r b) (i := wk) ⟨by omega, by omega⟩ (by rw [gz_up h ⟨by omega, by omega⟩ hr (by omega), if_pos rfl]) (fun k p q c => by rw [gz_up h ⟨by omega, by omega⟩ hr p, if_neg c])]
theorem dsV_rg (a r b : Int) : -2147483648 ≤ dsV a r b ∧ dsV a r b < 2147483648 := i32_rg _
theorem xoV_rg (a r : Int) : -2147483648 ≤ xoV a r ∧ xoV a r < 2147483648 := i32_rg _
end

section
set_option maxHeartbeats 4000000 in
set_option maxRecDepth 100000 in
theorem x_dress (l : Launch) (D : va_G) (k : Nat → ClassId) (hc : Nat) (cw : Nat) (cg : Nat) (cs : Nat) (ck : Nat) (wk : Int) (od : Int) (wf : Nat → Int32) (r : Int) (v : Int) (hwk : 0 ≤ wk ∧ wk ≤ 400) : WD (σ := ((Int) × (Int64) × ((Nat → Int32)) × (Unit))) l yX0_dress cX0_dress 3 none 0 0 0 D k [.ref hc, .int (iZ r), .int (iZ v)] [(hc, .inr (0, [.ref cw, .ref cg, .ref cs, .ref ck, .int (iZ wk), .int (iZ od)])), (cw, .inl (k 1, 401, .inl wf))] (fun _ => none) (fun u => u.2.2.1 = upd wf (iZ wk).toNatClampNeg (iZ (dsV (gz wf wk) r v))) (fun u => [(hc, .inr (0, [.ref cw, .ref cg, .ref cs, .ref ck, .int (iZ wk), .int (iZ od)])), (cw, .inl (k 1, 401, .inl u.2.2.1))]) := by
  refine MW (by decide) (Nat.le_of_ble_eq_true rfl) (fun p e s m below meth c ls A hx hb hml hr hlocks hin hts hown hKK hP hD hS hA hl => ?_)
  have hK := hKK.1
  have hl : lv_has ls 3 [(0, .ref hc), (1, .int (iZ r)), (2, .int (iZ v))] := hl
  refine lv_aload_n hx hb dX0_dress_0 rfl (lv_at hl 0 rfl) ?_
  refine va_get (D := D) (ci := 0) (v := .ref cw) (C := RX0) (T := TX0) (N := 6) hx hb hts iX0 hown hK hP 0 rfl rfl 0 (bl rfl) (hts _ qf_X0_9) (fun _ h => h) rfl dX0_dress_1 ?_
  refine lv_aload_n hx hb dX0_dress_4 rfl (lv_at hl 0 rfl) ?_
  refine va_get (D := D) (ci := 0) (v := .int (iZ wk)) (C := RX0) (T := TX0) (N := 6) hx hb hts iX0 hown hK hP 0 rfl rfl 4 (bl rfl) (hts _ qf_X0_24) (fun _ h => h) rfl dX0_dress_5 ?_
  refine lv_aload_n hx hb dX0_dress_8 rfl (lv_at hl 0 rfl) ?_
  refine va_get (D := D) (ci := 0) (v := .ref cw) (C := RX0) (T := TX0) (N := 6) hx hb hts iX0 hown hK hP 0 rfl rfl 0 (bl rfl) (hts _ qf_X0_9) (fun _ h => h) rfl dX0_dress_9 ?_
  refine lv_aload_n hx hb dX0_dress_12 rfl (lv_at hl 0 rfl) ?_
  refine va_get (D := D) (ci := 0) (v := .int (iZ wk)) (C := RX0) (T := TX0) (N := 6) hx hb hts iX0 hown hK hP 0 rfl rfl 4 (bl rfl) (hts _ qf_X0_24) (fun _ h => h) rfl dX0_dress_13 ?_
  refine va_iald hx hb hK hP 1 1 rfl rfl (zin (e := wk) (n := 401) ⟨by omega, by omega⟩ (bl rfl)) dX0_dress_16 ?_
  refine lv_topi (fun x_1 ex_1 => ?_)
  obtain rfl : x_1 = iZ (gz wf wk) := ex_1.trans (gz_eq ⟨by omega, by omega⟩)
  have h_2 := gz_rg wf wk
  refine lv_iconst (v := iZ 1) hx hb dX0_dress_17 rfl ?_
  refine lv_iload_n hx hb dX0_dress_18 rfl (lv_at hl 1 rfl) ?_
  refine lv_ishl hx hb dX0_dress_19 ?_
  refine lv_topi (fun x_4 ex_4 => ?_)
  obtain ⟨z_3, hz_3, hz_3a, hz_3b⟩ := i32_z x_4
  subst hz_3
  refine lv_iconst (v := iZ (-1)) hx hb dX0_dress_20 rfl ?_
  refine lv_ixor hx hb dX0_dress_21 ?_
  refine lv_topi (fun x_6 ex_6 => ?_)
  obtain ⟨z_5, hz_5, hz_5a, hz_5b⟩ := i32_z x_6
  subst hz_5
  refine lv_iand hx hb dX0_dress_22 ?_
  refine lv_topi (fun x_8 ex_8 => ?_)
  obtain ⟨z_7, hz_7, hz_7a, hz_7b⟩ := i32_z x_8
  subst hz_7
  refine lv_iload_n hx hb dX0_dress_23 rfl (lv_at hl 2 rfl) ?_
  refine lv_iload_n hx hb dX0_dress_24 rfl (lv_at hl 1 rfl) ?_
  refine lv_ishl hx hb dX0_dress_25 ?_
  refine lv_topi (fun x_10 ex_10 => ?_)
  obtain ⟨z_9, hz_9, hz_9a, hz_9b⟩ := i32_z x_10
  subst hz_9
  refine lv_ior hx hb dX0_dress_26 ?_
  refine lv_topi (fun x_12 ex_12 => ?_)
  obtain ⟨z_11, hz_11, hz_11a, hz_11b⟩ := i32_z x_12
  subst hz_11
  refine va_iast hx hb hK hP hD hS 1 1 rfl rfl (zin (e := wk) (n := 401) ⟨by omega, by omega⟩ (bl rfl)) dX0_dress_27 (fun H locs hP hD hS => ?_)
  obtain ⟨f_13, hf_13⟩ : ∃ gg9, gg9 = upd wf (iZ wk).toNatClampNeg (iZ z_11) := ⟨_, rfl⟩
  rw [← hf_13] at hP hD
  exact EWv hx hb hr hlocks hS (0, 0, f_13, ()) rfl (show f_13 = upd wf (iZ wk).toNatClampNeg (iZ (dsV (gz wf wk) r v)) from (by rw [show dsV (gz wf wk) r v = z_11 from (dsV_eq ex_4 ex_6 ex_8 ex_10 ex_12 ⟨hz_11a, hz_11b⟩).symm]; exact hf_13)) (hP.sub [0, 1] rfl) (hD.sub [0, 1] rfl rfl) dX0_dress_28
set_option maxHeartbeats 4000000 in
set_option maxRecDepth 100000 in
theorem x_turnRound (l : Launch) (D : va_G) (k : Nat → ClassId) (hc : Nat) (cw : Nat) (cg : Nat) (cs : Nat) (ck : Nat) (wk : Int) (od : Int) (wf : Nat → Int32) (r : Int) (hwk : 0 ≤ wk ∧ wk ≤ 400) : WD (σ := ((Int) × (Int64) × ((Nat → Int32)) × (Unit))) l yX0_turnRound cX0_turnRound 2 none 0 0 0 D k [.ref hc, .int (iZ r)] [(hc, .inr (0, [.ref cw, .ref cg, .ref cs, .ref ck, .int (iZ wk), .int (iZ od)])), (cw, .inl (k 1, 401, .inl wf))] (fun _ => none) (fun u => u.2.2.1 = upd wf (iZ wk).toNatClampNeg (iZ (xoV (gz wf wk) r))) (fun u => [(hc, .inr (0, [.ref cw, .ref cg, .ref cs, .ref ck, .int (iZ wk), .int (iZ od)])), (cw, .inl (k 1, 401, .inl u.2.2.1))]) := by
  refine MW (by decide) (Nat.le_of_ble_eq_true rfl) (fun p e s m below meth c ls A hx hb hml hr hlocks hin hts hown hKK hP hD hS hA hl => ?_)
  have hK := hKK.1
  have hl : lv_has ls 2 [(0, .ref hc), (1, .int (iZ r))] := hl
  refine lv_aload_n hx hb dX0_turnRound_0 rfl (lv_at hl 0 rfl) ?_
  refine va_get (D := D) (ci := 0) (v := .ref cw) (C := RX0) (T := TX0) (N := 6) hx hb hts iX0 hown hK hP 0 rfl rfl 0 (bl rfl) (hts _ qf_X0_9) (fun _ h => h) rfl dX0_turnRound_1 ?_
  refine lv_aload_n hx hb dX0_turnRound_4 rfl (lv_at hl 0 rfl) ?_
  refine va_get (D := D) (ci := 0) (v := .int (iZ wk)) (C := RX0) (T := TX0) (N := 6) hx hb hts iX0 hown hK hP 0 rfl rfl 4 (bl rfl) (hts _ qf_X0_24) (fun _ h => h) rfl dX0_turnRound_5 ?_
  refine lv_dup2_11 hx hb dX0_turnRound_8 rfl rfl ?_
  refine va_iald hx hb hK hP 1 1 rfl rfl (zin (e := wk) (n := 401) ⟨by omega, by omega⟩ (bl rfl)) dX0_turnRound_9 ?_
  refine lv_topi (fun x_1 ex_1 => ?_)
  obtain rfl : x_1 = iZ (gz wf wk) := ex_1.trans (gz_eq ⟨by omega, by omega⟩)
  have h_2 := gz_rg wf wk
  refine lv_iconst (v := iZ 1) hx hb dX0_turnRound_10 rfl ?_
  refine lv_iload_n hx hb dX0_turnRound_11 rfl (lv_at hl 1 rfl) ?_
  refine lv_ishl hx hb dX0_turnRound_12 ?_
  refine lv_topi (fun x_4 ex_4 => ?_)
  obtain ⟨z_3, hz_3, hz_3a, hz_3b⟩ := i32_z x_4
  subst hz_3
  refine lv_ixor hx hb dX0_turnRound_13 ?_
  refine lv_topi (fun x_6 ex_6 => ?_)
  obtain ⟨z_5, hz_5, hz_5a, hz_5b⟩ := i32_z x_6
  subst hz_5
  refine va_iast hx hb hK hP hD hS 1 1 rfl rfl (zin (e := wk) (n := 401) ⟨by omega, by omega⟩ (bl rfl)) dX0_turnRound_14 (fun H locs hP hD hS => ?_)
  obtain ⟨f_7, hf_7⟩ : ∃ gg9, gg9 = upd wf (iZ wk).toNatClampNeg (iZ z_5) := ⟨_, rfl⟩
  rw [← hf_7] at hP hD
  exact EWv hx hb hr hlocks hS (0, 0, f_7, ()) rfl (show f_7 = upd wf (iZ wk).toNatClampNeg (iZ (xoV (gz wf wk) r)) from (by rw [show xoV (gz wf wk) r = z_5 from (xoV_eq ex_4 ex_6 ⟨hz_5a, hz_5b⟩).symm]; exact hf_7)) (hP.sub [0, 1] rfl) (hD.sub [0, 1] rfl rfl) dX0_turnRound_15
end

section
set_option maxHeartbeats 4000000 in
set_option maxRecDepth 100000 in
theorem x_goesAhead (l : Launch) (D : va_G) (k : Nat → ClassId) (fs : List Value) (hs : Nat) (hf : Nat) (hg : Nat) (hc : Nat) (hy : Nat) (n : Int) (ni : Int) (lw : Int) (f : Nat → Int32) (g : Nat → Int32) (hw1 : Nat) (cw : Nat) (cg : Nat) (cs : Nat) (ck : Nat) (wk : Int) (od : Int) (wf : Nat → Int32) (gf : Nat → Int32) (sf : Nat → Int32) (kf0 : Nat → Int32) (a : Int) (b : Int) (r : Int) (f1 : fs[1]? = some (.ref hf)) (f2 : fs[2]? = some (.ref hg)) (f3 : fs[3]? = some (.int (iZ n))) (f4 : fs[4]? = some (.int (iZ ni))) (f5 : fs[5]? = some (.int (iZ lw))) (hn : n ≤ 6) (hx0 : FXI f n) (hni : 0 ≤ ni ∧ ni ≤ 8) (hn0 : 0 ≤ n) (hlw : -2147483648 ≤ lw ∧ lw < 2147483648) (hwk : 0 ≤ wk ∧ wk ≤ 400) (hod : 0 ≤ od ∧ od ≤ 20) (rgg0 : rgI gf 0 (n - 1) od) (hKN : KNC f g n ni od gf sf kf0) (q_a : 0 ≤ a ∧ a < od) (q_b : 0 ≤ b ∧ b < od) (q_r : 0 ≤ r ∧ r < n) (ka : ¬ gz kf0 ((a * 6) + r) = -1) (kb : ¬ gz kf0 ((b * 6) + r) = -1) : RP l yX8_goesAhead cX8_goesAhead 4 (some .boolean) 1 D k [.ref hw1, .int (iZ a), .int (iZ b), .int (iZ r)] [(hw1, .inr (8, [.ref hs, .ref hc, .ref hy])), (hc, .inr (0, [.ref cw, .ref cg, .ref cs, .ref ck, .int (iZ wk), .int (iZ od)])), (cw, .inl (k 1, 401, .inl wf)), (cg, .inl (k 1, 20, .inl gf)), (cs, .inl (k 1, 20, .inl sf)), (ck, .inl (k 1, 120, .inl kf0)), (hs, .inr (5, fs)), (hf, .inl (k 1, 36, .inl f)), (hg, .inl (k 1, 32, .inl g))] (fun z => (z = 1 ∧ (wtF (eC f g n ni lw) (cL wk od wf gf sf) r a < wtF (eC f g n ni lw) (cL wk od wf gf sf) r b)) ∨ (z = 0 ∧ ¬ (wtF (eC f g n ni lw) (cL wk od wf gf sf) r a < wtF (eC f g n ni lw) (cL wk od wf gf sf) r b))) := by
  refine MRP (by decide) (Nat.le_of_ble_eq_true rfl) (fun p e s m below meth c ls hx hb hml hr hlocks hts hown hKK hP hl => ?_)
  have hK := hKK.1
  have hl : lv_has ls 4 [(0, .ref hw1), (1, .int (iZ a)), (2, .int (iZ b)), (3, .int (iZ r))] := hl
  refine lv_aload_n hx hb dX8_goesAhead_0 rfl (lv_at hl 0 rfl) ?_
  refine va_get (D := D) (ci := 8) (v := .ref hs) (C := RX8) (T := TX8) (N := 3) hx hb hts iX8 hown hK hP 0 rfl rfl 0 (bl rfl) (hts _ qf_X8_12) (fun _ h => h) rfl dX8_goesAhead_1 ?_
  refine va_get (D := D) (ci := 5) (v := .int (iZ lw)) (C := RX5) (T := TX5) (N := 7) hx hb hts iX5 hown hK hP 6 rfl rfl 5 (bl rfl) (hts _ qf_X8_64) (fun _ h => h) f5 dX8_goesAhead_4 ?_
  rcases Classical.em (lw = 0) with c_1 | c_1
  ·
    refine lv_tableIn (tgt := 32) (off := 25) hx hb dX8_goesAhead_7 (by rw [iZ_ti ⟨by omega, by omega⟩]; omega) (by rw [iZ_ti ⟨by omega, by omega⟩]; omega) (by rw [iZ_ti ⟨by omega, by omega⟩, c_1]; rfl) (by decide) ?_
    refine lv_aload_n hx hb dX8_goesAhead_32 rfl (lv_at hl 0 rfl) ?_
    refine va_get (D := D) (ci := 8) (v := .ref hc) (C := RX8) (T := TX8) (N := 3) hx hb hts iX8 hown hK hP 0 rfl rfl 1 (bl rfl) (hts _ qf_X8_21) (fun _ h => h) rfl dX8_goesAhead_33 ?_
    refine lv_iload_n hx hb dX8_goesAhead_36 rfl (lv_at hl 1 rfl) ?_
    refine lv_iload_n hx hb dX8_goesAhead_37 rfl (lv_at hl 3 rfl) ?_
    refine CRV (As := [.int (iZ a), .int (iZ r)]) (rest := []) hx hb hml hown hts hKK (hP.sub (ws' := [(hc, .inr (0, [.ref cw, .ref cg, .ref cs, .ref ck, .int (iZ wk), .int (iZ od)])), (ck, .inl (k 1, 120, .inl kf0))]) [1, 5] rfl) (k_firstKnown l D k hc ck [.ref cw, .ref cg, .ref cs, .ref ck, .int (iZ wk), .int (iZ od)] rfl kf0 a r ⟨by omega, by omega⟩ ⟨by omega, by omega⟩) ci_X0_firstKnown qm_X8_56 ⟨Nat.le_of_ble_eq_true rfl, Nat.le_of_ble_eq_true rfl⟩ ⟨Nat.le_of_ble_eq_true rfl, Nat.le_of_ble_eq_true rfl⟩ 0 rfl rfl rfl hl.1 rfl (Nat.le_of_ble_eq_true rfl) dX8_goesAhead_38 ?_
    have hg_h_2 := gz_rg kf0 ((a * 6) + r)
    refine lv_aload_n hx hb dX8_goesAhead_41 rfl (lv_at hl 0 rfl) ?_
    refine va_get (D := D) (ci := 8) (v := .ref hc) (C := RX8) (T := TX8) (N := 3) hx hb hts iX8 hown hK hP 0 rfl rfl 1 (bl rfl) (hts _ qf_X8_21) (fun _ h => h) rfl dX8_goesAhead_42 ?_
    refine lv_iload_n hx hb dX8_goesAhead_45 rfl (lv_at hl 2 rfl) ?_
    refine lv_iload_n hx hb dX8_goesAhead_46 rfl (lv_at hl 3 rfl) ?_
    refine CRV (As := [.int (iZ b), .int (iZ r)]) (rest := [.int (iZ (gz kf0 ((a * 6) + r)))]) hx hb hml hown hts hKK (hP.sub (ws' := [(hc, .inr (0, [.ref cw, .ref cg, .ref cs, .ref ck, .int (iZ wk), .int (iZ od)])), (ck, .inl (k 1, 120, .inl kf0))]) [1, 5] rfl) (k_firstKnown l D k hc ck [.ref cw, .ref cg, .ref cs, .ref ck, .int (iZ wk), .int (iZ od)] rfl kf0 b r ⟨by omega, by omega⟩ ⟨by omega, by omega⟩) ci_X0_firstKnown qm_X8_56 ⟨Nat.le_of_ble_eq_true rfl, Nat.le_of_ble_eq_true rfl⟩ ⟨Nat.le_of_ble_eq_true rfl, Nat.le_of_ble_eq_true rfl⟩ 0 rfl rfl rfl hl.1 rfl (Nat.le_of_ble_eq_true rfl) dX8_goesAhead_47 ?_
    have hg_h_3 := gz_rg kf0 ((b * 6) + r)
    refine lv_icmp_ge (tgt := 57) hx hb dX8_goesAhead_50 rfl (fun c_4 => ?_) (fun c_4 => ?_)
    ·
      have c_4 := (zle (x := iZ (gz kf0 ((b * 6) + r))) (y := iZ (gz kf0 ((a * 6) + r))) rfl rfl (gz_rg kf0 ((b * 6) + r)) (gz_rg kf0 ((a * 6) + r))).mp c_4
      refine lv_iconst (v := iZ 0) hx hb dX8_goesAhead_57 rfl ?_
      exact EPz hx hb hr hlocks (by omega) (by have w1 := KNC.wt lw wk wf hKN (o := a) (r := r) ⟨by omega, by omega⟩ ⟨by omega, by omega⟩ rgg0 (by omega); have w2 := KNC.wt lw wk wf hKN (o := b) (r := r) ⟨by omega, by omega⟩ ⟨by omega, by omega⟩ rgg0 (by omega); omega) dX8_goesAhead_58
    ·
      have c_4 := mt (zle (x := iZ (gz kf0 ((b * 6) + r))) (y := iZ (gz kf0 ((a * 6) + r))) rfl rfl (gz_rg kf0 ((b * 6) + r)) (gz_rg kf0 ((a * 6) + r))).mpr c_4
      refine lv_iconst (v := iZ 1) hx hb dX8_goesAhead_53 rfl ?_
      refine lv_goto (tgt := 58) hx hb dX8_goesAhead_54 rfl ?_
      exact EPz hx hb hr hlocks (by omega) (by have w1 := KNC.wt lw wk wf hKN (o := a) (r := r) ⟨by omega, by omega⟩ ⟨by omega, by omega⟩ rgg0 (by omega); have w2 := KNC.wt lw wk wf hKN (o := b) (r := r) ⟨by omega, by omega⟩ ⟨by omega, by omega⟩ rgg0 (by omega); omega) dX8_goesAhead_58
  ·
    rcases Classical.em (lw = 1) with c_5 | c_5
    ·
      refine lv_tableIn (tgt := 59) (off := 52) hx hb dX8_goesAhead_7 (by rw [iZ_ti ⟨by omega, by omega⟩]; omega) (by rw [iZ_ti ⟨by omega, by omega⟩]; omega) (by rw [iZ_ti ⟨by omega, by omega⟩, c_5]; rfl) (by decide) ?_
      refine lv_aload_n hx hb dX8_goesAhead_59 rfl (lv_at hl 0 rfl) ?_
      refine va_get (D := D) (ci := 8) (v := .ref hc) (C := RX8) (T := TX8) (N := 3) hx hb hts iX8 hown hK hP 0 rfl rfl 1 (bl rfl) (hts _ qf_X8_21) (fun _ h => h) rfl dX8_goesAhead_60 ?_
      refine lv_iload_n hx hb dX8_goesAhead_63 rfl (lv_at hl 1 rfl) ?_
      refine lv_iload_n hx hb dX8_goesAhead_64 rfl (lv_at hl 3 rfl) ?_
      refine CRV (As := [.int (iZ a), .int (iZ r)]) (rest := []) hx hb hml hown hts hKK (hP.sub (ws' := [(hc, .inr (0, [.ref cw, .ref cg, .ref cs, .ref ck, .int (iZ wk), .int (iZ od)])), (ck, .inl (k 1, 120, .inl kf0))]) [1, 5] rfl) (k_firstKnown l D k hc ck [.ref cw, .ref cg, .ref cs, .ref ck, .int (iZ wk), .int (iZ od)] rfl kf0 a r ⟨by omega, by omega⟩ ⟨by omega, by omega⟩) ci_X0_firstKnown qm_X8_56 ⟨Nat.le_of_ble_eq_true rfl, Nat.le_of_ble_eq_true rfl⟩ ⟨Nat.le_of_ble_eq_true rfl, Nat.le_of_ble_eq_true rfl⟩ 0 rfl rfl rfl hl.1 rfl (Nat.le_of_ble_eq_true rfl) dX8_goesAhead_65 ?_
      have hg_h_6 := gz_rg kf0 ((a * 6) + r)
      refine lv_aload_n hx hb dX8_goesAhead_68 rfl (lv_at hl 0 rfl) ?_
      refine va_get (D := D) (ci := 8) (v := .ref hc) (C := RX8) (T := TX8) (N := 3) hx hb hts iX8 hown hK hP 0 rfl rfl 1 (bl rfl) (hts _ qf_X8_21) (fun _ h => h) rfl dX8_goesAhead_69 ?_
      refine lv_iload_n hx hb dX8_goesAhead_72 rfl (lv_at hl 2 rfl) ?_
      refine lv_iload_n hx hb dX8_goesAhead_73 rfl (lv_at hl 3 rfl) ?_
      refine CRV (As := [.int (iZ b), .int (iZ r)]) (rest := [.int (iZ (gz kf0 ((a * 6) + r)))]) hx hb hml hown hts hKK (hP.sub (ws' := [(hc, .inr (0, [.ref cw, .ref cg, .ref cs, .ref ck, .int (iZ wk), .int (iZ od)])), (ck, .inl (k 1, 120, .inl kf0))]) [1, 5] rfl) (k_firstKnown l D k hc ck [.ref cw, .ref cg, .ref cs, .ref ck, .int (iZ wk), .int (iZ od)] rfl kf0 b r ⟨by omega, by omega⟩ ⟨by omega, by omega⟩) ci_X0_firstKnown qm_X8_56 ⟨Nat.le_of_ble_eq_true rfl, Nat.le_of_ble_eq_true rfl⟩ ⟨Nat.le_of_ble_eq_true rfl, Nat.le_of_ble_eq_true rfl⟩ 0 rfl rfl rfl hl.1 rfl (Nat.le_of_ble_eq_true rfl) dX8_goesAhead_74 ?_
      have hg_h_7 := gz_rg kf0 ((b * 6) + r)
      refine lv_icmp_le (tgt := 84) hx hb dX8_goesAhead_77 rfl (fun c_8 => ?_) (fun c_8 => ?_)
      ·
        have c_8 := (zle (x := iZ (gz kf0 ((a * 6) + r))) (y := iZ (gz kf0 ((b * 6) + r))) rfl rfl (gz_rg kf0 ((a * 6) + r)) (gz_rg kf0 ((b * 6) + r))).mp c_8
        refine lv_iconst (v := iZ 0) hx hb dX8_goesAhead_84 rfl ?_
        exact EPz hx hb hr hlocks (by omega) (by have w1 := KNC.wt lw wk wf hKN (o := a) (r := r) ⟨by omega, by omega⟩ ⟨by omega, by omega⟩ rgg0 (by omega); have w2 := KNC.wt lw wk wf hKN (o := b) (r := r) ⟨by omega, by omega⟩ ⟨by omega, by omega⟩ rgg0 (by omega); omega) dX8_goesAhead_85
      ·
        have c_8 := mt (zle (x := iZ (gz kf0 ((a * 6) + r))) (y := iZ (gz kf0 ((b * 6) + r))) rfl rfl (gz_rg kf0 ((a * 6) + r)) (gz_rg kf0 ((b * 6) + r))).mpr c_8
        refine lv_iconst (v := iZ 1) hx hb dX8_goesAhead_80 rfl ?_
        refine lv_goto (tgt := 85) hx hb dX8_goesAhead_81 rfl ?_
        exact EPz hx hb hr hlocks (by omega) (by have w1 := KNC.wt lw wk wf hKN (o := a) (r := r) ⟨by omega, by omega⟩ ⟨by omega, by omega⟩ rgg0 (by omega); have w2 := KNC.wt lw wk wf hKN (o := b) (r := r) ⟨by omega, by omega⟩ ⟨by omega, by omega⟩ rgg0 (by omega); omega) dX8_goesAhead_85
    ·
      rcases Classical.em (lw = 2) with c_9 | c_9
      ·
        refine lv_tableIn (tgt := 86) (off := 79) hx hb dX8_goesAhead_7 (by rw [iZ_ti ⟨by omega, by omega⟩]; omega) (by rw [iZ_ti ⟨by omega, by omega⟩]; omega) (by rw [iZ_ti ⟨by omega, by omega⟩, c_9]; rfl) (by decide) ?_
        refine lv_aload_n hx hb dX8_goesAhead_86 rfl (lv_at hl 0 rfl) ?_
        refine va_get (D := D) (ci := 8) (v := .ref hs) (C := RX8) (T := TX8) (N := 3) hx hb hts iX8 hown hK hP 0 rfl rfl 0 (bl rfl) (hts _ qf_X8_12) (fun _ h => h) rfl dX8_goesAhead_87 ?_
        refine lv_aload_n hx hb dX8_goesAhead_90 rfl (lv_at hl 0 rfl) ?_
        refine va_get (D := D) (ci := 8) (v := .ref hc) (C := RX8) (T := TX8) (N := 3) hx hb hts iX8 hown hK hP 0 rfl rfl 1 (bl rfl) (hts _ qf_X8_21) (fun _ h => h) rfl dX8_goesAhead_91 ?_
        refine va_get (D := D) (ci := 0) (v := .ref cg) (C := RX0) (T := TX0) (N := 6) hx hb hts iX0 hown hK hP 1 rfl rfl 1 (bl rfl) (hts _ qf_X8_67) (fun _ h => h) rfl dX8_goesAhead_94 ?_
        refine lv_iload_n hx hb dX8_goesAhead_97 rfl (lv_at hl 1 rfl) ?_
        refine va_iald hx hb hK hP 3 1 rfl rfl (zin (e := a) (n := 20) ⟨by omega, by omega⟩ (bl rfl)) dX8_goesAhead_98 ?_
        refine lv_topi (fun x_10 ex_10 => ?_)
        obtain rfl : x_10 = iZ (gz gf a) := ex_10.trans (gz_eq ⟨by omega, by omega⟩)
        have h_11 := rgg0 a (by omega) (by omega)
        refine lv_iconst (v := iZ 3) hx hb dX8_goesAhead_99 rfl ?_
        refine CRV (As := [.int (iZ (gz gf a)), .int (iZ 3)]) (rest := []) hx hb hml hown hts hKK (hP.sub (ws' := [(hs, .inr (5, fs)), (hf, .inl (k 1, 36, .inl f))]) [6, 7] rfl) (k_fact l D k hs hf fs f1 f (gz gf a) 3 ⟨by omega, by omega⟩ ⟨by omega, by omega⟩) ci_X5_fact qm_X8_71 ⟨Nat.le_of_ble_eq_true rfl, Nat.le_of_ble_eq_true rfl⟩ ⟨Nat.le_of_ble_eq_true rfl, Nat.le_of_ble_eq_true rfl⟩ 0 rfl rfl rfl hl.1 rfl (Nat.le_of_ble_eq_true rfl) dX8_goesAhead_100 ?_
        have hg_h_12 := gz_rg f (((gz gf a) * 6) + 3)
        refine lv_aload_n hx hb dX8_goesAhead_103 rfl (lv_at hl 0 rfl) ?_
        refine va_get (D := D) (ci := 8) (v := .ref hs) (C := RX8) (T := TX8) (N := 3) hx hb hts iX8 hown hK hP 0 rfl rfl 0 (bl rfl) (hts _ qf_X8_12) (fun _ h => h) rfl dX8_goesAhead_104 ?_
        refine lv_aload_n hx hb dX8_goesAhead_107 rfl (lv_at hl 0 rfl) ?_
        refine va_get (D := D) (ci := 8) (v := .ref hc) (C := RX8) (T := TX8) (N := 3) hx hb hts iX8 hown hK hP 0 rfl rfl 1 (bl rfl) (hts _ qf_X8_21) (fun _ h => h) rfl dX8_goesAhead_108 ?_
        refine va_get (D := D) (ci := 0) (v := .ref cg) (C := RX0) (T := TX0) (N := 6) hx hb hts iX0 hown hK hP 1 rfl rfl 1 (bl rfl) (hts _ qf_X8_67) (fun _ h => h) rfl dX8_goesAhead_111 ?_
        refine lv_iload_n hx hb dX8_goesAhead_114 rfl (lv_at hl 2 rfl) ?_
        refine va_iald hx hb hK hP 3 1 rfl rfl (zin (e := b) (n := 20) ⟨by omega, by omega⟩ (bl rfl)) dX8_goesAhead_115 ?_
        refine lv_topi (fun x_13 ex_13 => ?_)
        obtain rfl : x_13 = iZ (gz gf b) := ex_13.trans (gz_eq ⟨by omega, by omega⟩)
        have h_14 := rgg0 b (by omega) (by omega)
        refine lv_iconst (v := iZ 3) hx hb dX8_goesAhead_116 rfl ?_
        refine CRV (As := [.int (iZ (gz gf b)), .int (iZ 3)]) (rest := [.int (iZ (gz f (((gz gf a) * 6) + 3)))]) hx hb hml hown hts hKK (hP.sub (ws' := [(hs, .inr (5, fs)), (hf, .inl (k 1, 36, .inl f))]) [6, 7] rfl) (k_fact l D k hs hf fs f1 f (gz gf b) 3 ⟨by omega, by omega⟩ ⟨by omega, by omega⟩) ci_X5_fact qm_X8_71 ⟨Nat.le_of_ble_eq_true rfl, Nat.le_of_ble_eq_true rfl⟩ ⟨Nat.le_of_ble_eq_true rfl, Nat.le_of_ble_eq_true rfl⟩ 0 rfl rfl rfl hl.1 rfl (Nat.le_of_ble_eq_true rfl) dX8_goesAhead_117 ?_
        have hg_h_15 := gz_rg f (((gz gf b) * 6) + 3)
        refine lv_icmp_le (tgt := 127) hx hb dX8_goesAhead_120 rfl (fun c_16 => ?_) (fun c_16 => ?_)
        ·
          have c_16 := (zle (x := iZ (gz f (((gz gf a) * 6) + 3))) (y := iZ (gz f (((gz gf b) * 6) + 3))) rfl rfl (gz_rg f (((gz gf a) * 6) + 3)) (gz_rg f (((gz gf b) * 6) + 3))).mp c_16
          refine lv_iconst (v := iZ 0) hx hb dX8_goesAhead_127 rfl ?_
          exact EPz hx hb hr hlocks (by omega) (by have w1 := KNC.wt lw wk wf hKN (o := a) (r := r) ⟨by omega, by omega⟩ ⟨by omega, by omega⟩ rgg0 (by omega); have w2 := KNC.wt lw wk wf hKN (o := b) (r := r) ⟨by omega, by omega⟩ ⟨by omega, by omega⟩ rgg0 (by omega); omega) dX8_goesAhead_128
        ·
          have c_16 := mt (zle (x := iZ (gz f (((gz gf a) * 6) + 3))) (y := iZ (gz f (((gz gf b) * 6) + 3))) rfl rfl (gz_rg f (((gz gf a) * 6) + 3)) (gz_rg f (((gz gf b) * 6) + 3))).mpr c_16
          refine lv_iconst (v := iZ 1) hx hb dX8_goesAhead_123 rfl ?_
          refine lv_goto (tgt := 128) hx hb dX8_goesAhead_124 rfl ?_
          exact EPz hx hb hr hlocks (by omega) (by have w1 := KNC.wt lw wk wf hKN (o := a) (r := r) ⟨by omega, by omega⟩ ⟨by omega, by omega⟩ rgg0 (by omega); have w2 := KNC.wt lw wk wf hKN (o := b) (r := r) ⟨by omega, by omega⟩ ⟨by omega, by omega⟩ rgg0 (by omega); omega) dX8_goesAhead_128
      ·
        refine lv_tableOut (tgt := 129) hx hb dX8_goesAhead_7 (by rw [iZ_ti ⟨by omega, by omega⟩]; omega) (by decide) ?_
        refine lv_aload_n hx hb dX8_goesAhead_129 rfl (lv_at hl 0 rfl) ?_
        refine va_get (D := D) (ci := 8) (v := .ref hc) (C := RX8) (T := TX8) (N := 3) hx hb hts iX8 hown hK hP 0 rfl rfl 1 (bl rfl) (hts _ qf_X8_21) (fun _ h => h) rfl dX8_goesAhead_130 ?_
        refine va_get (D := D) (ci := 0) (v := .ref cs) (C := RX0) (T := TX0) (N := 6) hx hb hts iX0 hown hK hP 1 rfl rfl 2 (bl rfl) (hts _ qf_X8_74) (fun _ h => h) rfl dX8_goesAhead_133 ?_
        refine lv_iload_n hx hb dX8_goesAhead_136 rfl (lv_at hl 1 rfl) ?_
        refine va_iald hx hb hK hP 4 1 rfl rfl (zin (e := a) (n := 20) ⟨by omega, by omega⟩ (bl rfl)) dX8_goesAhead_137 ?_
        refine lv_topi (fun x_17 ex_17 => ?_)
        obtain rfl : x_17 = iZ (gz sf a) := ex_17.trans (gz_eq ⟨by omega, by omega⟩)
        have h_18 := gz_rg sf a
        refine lv_aload_n hx hb dX8_goesAhead_138 rfl (lv_at hl 0 rfl) ?_
        refine va_get (D := D) (ci := 8) (v := .ref hc) (C := RX8) (T := TX8) (N := 3) hx hb hts iX8 hown hK hP 0 rfl rfl 1 (bl rfl) (hts _ qf_X8_21) (fun _ h => h) rfl dX8_goesAhead_139 ?_
        refine va_get (D := D) (ci := 0) (v := .ref cs) (C := RX0) (T := TX0) (N := 6) hx hb hts iX0 hown hK hP 1 rfl rfl 2 (bl rfl) (hts _ qf_X8_74) (fun _ h => h) rfl dX8_goesAhead_142 ?_
        refine lv_iload_n hx hb dX8_goesAhead_145 rfl (lv_at hl 2 rfl) ?_
        refine va_iald hx hb hK hP 4 1 rfl rfl (zin (e := b) (n := 20) ⟨by omega, by omega⟩ (bl rfl)) dX8_goesAhead_146 ?_
        refine lv_topi (fun x_19 ex_19 => ?_)
        obtain rfl : x_19 = iZ (gz sf b) := ex_19.trans (gz_eq ⟨by omega, by omega⟩)
        have h_20 := gz_rg sf b
        refine lv_icmp_ge (tgt := 154) hx hb dX8_goesAhead_147 rfl (fun c_21 => ?_) (fun c_21 => ?_)
        ·
          have c_21 := (zle (x := iZ (gz sf b)) (y := iZ (gz sf a)) rfl rfl (gz_rg sf b) (gz_rg sf a)).mp c_21
          refine lv_iconst (v := iZ 0) hx hb dX8_goesAhead_154 rfl ?_
          exact EPz hx hb hr hlocks (by omega) (by have w1 := KNC.wt lw wk wf hKN (o := a) (r := r) ⟨by omega, by omega⟩ ⟨by omega, by omega⟩ rgg0 (by omega); have w2 := KNC.wt lw wk wf hKN (o := b) (r := r) ⟨by omega, by omega⟩ ⟨by omega, by omega⟩ rgg0 (by omega); omega) dX8_goesAhead_155
        ·
          have c_21 := mt (zle (x := iZ (gz sf b)) (y := iZ (gz sf a)) rfl rfl (gz_rg sf b) (gz_rg sf a)).mpr c_21
          refine lv_iconst (v := iZ 1) hx hb dX8_goesAhead_150 rfl ?_
          refine lv_goto (tgt := 155) hx hb dX8_goesAhead_151 rfl ?_
          exact EPz hx hb hr hlocks (by omega) (by have w1 := KNC.wt lw wk wf hKN (o := a) (r := r) ⟨by omega, by omega⟩ ⟨by omega, by omega⟩ rgg0 (by omega); have w2 := KNC.wt lw wk wf hKN (o := b) (r := r) ⟨by omega, by omega⟩ ⟨by omega, by omega⟩ rgg0 (by omega); omega) dX8_goesAhead_155
set_option maxHeartbeats 4000000 in
set_option maxRecDepth 100000 in
theorem x_ruler (l : Launch) (D : va_G) (k : Nat → ClassId) (fs : List Value) (hs : Nat) (hf : Nat) (hg : Nat) (hc : Nat) (hy : Nat) (n : Int) (ni : Int) (lw : Int) (f : Nat → Int32) (g : Nat → Int32) (hw1 : Nat) (cw : Nat) (cg : Nat) (cs : Nat) (ck : Nat) (wk : Int) (od : Int) (wf : Nat → Int32) (gf : Nat → Int32) (sf : Nat → Int32) (kf0 : Nat → Int32) (r : Int) (w : Int) (f1 : fs[1]? = some (.ref hf)) (f2 : fs[2]? = some (.ref hg)) (f3 : fs[3]? = some (.int (iZ n))) (f4 : fs[4]? = some (.int (iZ ni))) (f5 : fs[5]? = some (.int (iZ lw))) (hn : n ≤ 6) (hx0 : FXI f n) (hni : 0 ≤ ni ∧ ni ≤ 8) (hn0 : 0 ≤ n) (hlw : -2147483648 ≤ lw ∧ lw < 2147483648) (hwk : 0 ≤ wk ∧ wk ≤ 400) (hod : 0 ≤ od ∧ od ≤ 20) (rgg0 : rgI gf 0 (n - 1) od) (hKN : KNC f g n ni od gf sf kf0) (q_r : 0 ≤ r ∧ r < n) (q_w : 0 ≤ w ∧ w < 1000000) : RP l yX8_ruler cX8_ruler 7 (some .int) 2 D k [.ref hw1, .int (iZ r), .int (iZ w)] [(hw1, .inr (8, [.ref hs, .ref hc, .ref hy])), (hc, .inr (0, [.ref cw, .ref cg, .ref cs, .ref ck, .int (iZ wk), .int (iZ od)])), (cw, .inl (k 1, 401, .inl wf)), (cg, .inl (k 1, 20, .inl gf)), (cs, .inl (k 1, 20, .inl sf)), (ck, .inl (k 1, 120, .inl kf0)), (hs, .inr (5, fs)), (hf, .inl (k 1, 36, .inl f)), (hg, .inl (k 1, 32, .inl g))] (fun z => z = ruF (eC f g n ni lw) (cL wk od wf gf sf) r w ∧ (-1 ≤ z ∧ z < od)) := by
  refine MRP (by decide) (Nat.le_of_ble_eq_true rfl) (fun p e s m below meth c ls hx hb hml hr hlocks hts hown hKK hP hl => ?_)
  have hK := hKK.1
  have hl : lv_has ls 7 [(0, .ref hw1), (1, .int (iZ r)), (2, .int (iZ w))] := hl
  refine lv_iconst (v := iZ (-1)) hx hb dX8_ruler_0 rfl ?_
  refine lv_istore_n (lv' := [(3, .int (iZ (-1))), (0, .ref hw1), (1, .int (iZ r)), (2, .int (iZ w))]) hx hb dX8_ruler_1 rfl hl (bl rfl) rfl (fun ls hl => ?_)
  refine lv_iconst (v := iZ 0) hx hb dX8_ruler_2 rfl ?_
  refine lv_istore (lv' := [(4, .int (iZ 0)), (3, .int (iZ (-1))), (0, .ref hw1), (1, .int (iZ r)), (2, .int (iZ w))]) hx hb dX8_ruler_3 hl (bl rfl) rfl (fun ls hl => ?_)
  have HL5 : ∀ (fu : Nat) (v3_5 : Int) (v4_5 : Int) (ls : Array Slot), ((od - 1) + 2 - v4_5) < (fu : Int) → ((0 ≤ v4_5 ∧ v4_5 ≤ (od - 1) + 1)) → (-1 ≤ v3_5 ∧ v3_5 < od) → (v3_5 = rlF (eC f g n ni lw) (cL wk od wf gf sf) r w (Int.toNat (v4_5))) → lv_has ls 7 [(4, .int (iZ v4_5)), (3, .int (iZ v3_5)), (0, .ref hw1), (1, .int (iZ r)), (2, .int (iZ w))] → W p l e (rj 2 0 0) s m [.ref hw1, .int (iZ r), .int (iZ w)].toArray below meth c s.heap [] 0 0 (MQ below (QcP (fun z => z = ruF (eC f g n ni lw) (cL wk od wf gf sf) r w ∧ (-1 ≤ z ∧ z < od))) [.ref hw1, .int (iZ r), .int (iZ w)].toArray s 0 0 (fun _ => False)) (F0 m 5 ls []) := by
    intro fu
    induction fu with
    | zero => intro v3_5 v4_5 ls hμ5 hi5 hf0_5 hrl hl; exact absurd hμ5 (by omega)
    | succ fu ih5 =>
      intro v3_5 v4_5 ls hμ5 hi5 hf0_5 hrl hl
      refine lv_iload hx hb dX8_ruler_5 (lv_at hl 0 rfl) ?_
      refine lv_aload_n hx hb dX8_ruler_7 rfl (lv_at hl 2 rfl) ?_
      refine va_get (D := D) (ci := 8) (v := .ref hc) (C := RX8) (T := TX8) (N := 3) hx hb hts iX8 hown hK hP 0 rfl rfl 1 (bl rfl) (hts _ qf_X8_21) (fun _ h => h) rfl dX8_ruler_8 ?_
      refine va_get (D := D) (ci := 0) (v := .int (iZ od)) (C := RX0) (T := TX0) (N := 6) hx hb hts iX0 hown hK hP 1 rfl rfl 5 (bl rfl) (hts _ qf_X8_53) (fun _ h => h) rfl dX8_ruler_11 ?_
      refine lv_icmp_ge (tgt := 78) hx hb dX8_ruler_14 rfl (fun c_1 => ?_) (fun c_1 => ?_)
      ·
        have c_1 := (zle (x := iZ od) (y := iZ v4_5) rfl rfl ⟨by omega, by omega⟩ ⟨by omega, by omega⟩).mp c_1
        refine lv_iload_n hx hb dX8_ruler_78 rfl (lv_at hl 1 rfl) ?_
        exact EPi hx hb hr hlocks ⟨by have e9 : v4_5 = od := (by omega); rw [e9] at hrl; exact hrl, by omega, by omega⟩ dX8_ruler_79
      ·
        have c_1 := mt (zle (x := iZ od) (y := iZ v4_5) rfl rfl ⟨by omega, by omega⟩ ⟨by omega, by omega⟩).mpr c_1
        refine lv_aload_n hx hb dX8_ruler_17 rfl (lv_at hl 2 rfl) ?_
        refine va_get (D := D) (ci := 8) (v := .ref hc) (C := RX8) (T := TX8) (N := 3) hx hb hts iX8 hown hK hP 0 rfl rfl 1 (bl rfl) (hts _ qf_X8_21) (fun _ h => h) rfl dX8_ruler_18 ?_
        refine lv_iload hx hb dX8_ruler_21 (lv_at hl 0 rfl) ?_
        refine lv_iload_n hx hb dX8_ruler_23 rfl (lv_at hl 3 rfl) ?_
        refine CRV (As := [.int (iZ v4_5), .int (iZ r)]) (rest := []) hx hb hml hown hts hKK (hP.sub (ws' := [(hc, .inr (0, [.ref cw, .ref cg, .ref cs, .ref ck, .int (iZ wk), .int (iZ od)])), (ck, .inl (k 1, 120, .inl kf0))]) [1, 5] rfl) (k_firstKnown l D k hc ck [.ref cw, .ref cg, .ref cs, .ref ck, .int (iZ wk), .int (iZ od)] rfl kf0 v4_5 r ⟨by omega, by omega⟩ ⟨by omega, by omega⟩) ci_X0_firstKnown qm_X8_56 ⟨Nat.le_of_ble_eq_true rfl, Nat.le_of_ble_eq_true rfl⟩ ⟨Nat.le_of_ble_eq_true rfl, Nat.le_of_ble_eq_true rfl⟩ 0 rfl rfl rfl hl.1 rfl (Nat.le_of_ble_eq_true rfl) dX8_ruler_24 ?_
        have hg_h_2 := gz_rg kf0 ((v4_5 * 6) + r)
        refine lv_istore (lv' := [(5, .int (iZ (gz kf0 ((v4_5 * 6) + r)))), (4, .int (iZ v4_5)), (3, .int (iZ v3_5)), (0, .ref hw1), (1, .int (iZ r)), (2, .int (iZ w))]) hx hb dX8_ruler_27 hl (bl rfl) rfl (fun ls hl => ?_)
        refine lv_iload hx hb dX8_ruler_29 (lv_at hl 0 rfl) ?_
        refine lv_iconst (v := iZ (-1)) hx hb dX8_ruler_31 rfl ?_
        refine lv_icmp_eq (tgt := 45) hx hb dX8_ruler_32 rfl (fun c_3 => ?_) (fun c_3 => ?_)
        ·
          have c_3 := (zeq (x := iZ (gz kf0 ((v4_5 * 6) + r))) (y := iZ (-1)) rfl rfl (gz_rg kf0 ((v4_5 * 6) + r)) wn_m1).mp c_3
          refine lv_iconst (v := iZ 0) hx hb dX8_ruler_45 rfl ?_
          refine lv_istore (lv' := [(6, .int (iZ 0)), (5, .int (iZ (gz kf0 ((v4_5 * 6) + r)))), (4, .int (iZ v4_5)), (3, .int (iZ v3_5)), (0, .ref hw1), (1, .int (iZ r)), (2, .int (iZ w))]) hx hb dX8_ruler_46 hl (bl rfl) rfl (fun ls hl => ?_)
          refine lv_iload hx hb dX8_ruler_48 (lv_at hl 0 rfl) ?_
          refine lv_if_eq (tgt := 72) hx hb dX8_ruler_50 rfl (fun _ => ?_) (fun c => absurd (by decide) c)
          refine lv_iinc (v := iZ (v4_5 + 1)) (lv' := [(4, .int (iZ (v4_5 + 1))), (6, .int (iZ 0)), (5, .int (iZ (gz kf0 ((v4_5 * 6) + r)))), (3, .int (iZ v3_5)), (0, .ref hw1), (1, .int (iZ r)), (2, .int (iZ w))]) hx hb dX8_ruler_72 hl (k := 2) rfl (iZ_add v4_5 1) (by decide) rfl (fun ls hl => ?_)
          refine lv_goto (tgt := 5) hx hb dX8_ruler_75 rfl ?_
          exact ih5  v3_5 (v4_5 + 1) _ (by omega) (show (0 ≤ (v4_5 + 1) ∧ (v4_5 + 1) ≤ (od - 1) + 1) from ⟨by omega, by omega⟩) (show -1 ≤ v3_5 ∧ v3_5 < od from (by omega)) (show v3_5 = rlF (eC f g n ni lw) (cL wk od wf gf sf) r w (Int.toNat ((v4_5 + 1))) from (by have s9 := rlF_s (e := (eC f g n ni lw)) (L := (cL wk od wf gf sf)) (r := r) (w := w) (i := v4_5) (by omega); rw [← hrl] at s9; have k9 := KNC.c lw wk wf hKN (o := v4_5) (r := r) ⟨by omega, by omega⟩ ⟨by omega, by omega⟩; omega)) (lv_sub hl [0, 3, 4, 5, 6] rfl)
        ·
          have c_3 := mt (zeq (x := iZ (gz kf0 ((v4_5 * 6) + r))) (y := iZ (-1)) rfl rfl (gz_rg kf0 ((v4_5 * 6) + r)) wn_m1).mpr c_3
          refine lv_iload hx hb dX8_ruler_35 (lv_at hl 0 rfl) ?_
          refine lv_iload_n hx hb dX8_ruler_37 rfl (lv_at hl 5 rfl) ?_
          refine lv_icmp_gt (tgt := 45) hx hb dX8_ruler_38 rfl (fun c_5 => ?_) (fun c_5 => ?_)
          ·
            have c_5 := (zlt (x := iZ w) (y := iZ (gz kf0 ((v4_5 * 6) + r))) rfl rfl ⟨by omega, by omega⟩ (gz_rg kf0 ((v4_5 * 6) + r))).mp c_5
            refine lv_iconst (v := iZ 0) hx hb dX8_ruler_45 rfl ?_
            refine lv_istore (lv' := [(6, .int (iZ 0)), (5, .int (iZ (gz kf0 ((v4_5 * 6) + r)))), (4, .int (iZ v4_5)), (3, .int (iZ v3_5)), (0, .ref hw1), (1, .int (iZ r)), (2, .int (iZ w))]) hx hb dX8_ruler_46 hl (bl rfl) rfl (fun ls hl => ?_)
            refine lv_iload hx hb dX8_ruler_48 (lv_at hl 0 rfl) ?_
            refine lv_if_eq (tgt := 72) hx hb dX8_ruler_50 rfl (fun _ => ?_) (fun c => absurd (by decide) c)
            refine lv_iinc (v := iZ (v4_5 + 1)) (lv' := [(4, .int (iZ (v4_5 + 1))), (6, .int (iZ 0)), (5, .int (iZ (gz kf0 ((v4_5 * 6) + r)))), (3, .int (iZ v3_5)), (0, .ref hw1), (1, .int (iZ r)), (2, .int (iZ w))]) hx hb dX8_ruler_72 hl (k := 2) rfl (iZ_add v4_5 1) (by decide) rfl (fun ls hl => ?_)
            refine lv_goto (tgt := 5) hx hb dX8_ruler_75 rfl ?_
            exact ih5  v3_5 (v4_5 + 1) _ (by omega) (show (0 ≤ (v4_5 + 1) ∧ (v4_5 + 1) ≤ (od - 1) + 1) from ⟨by omega, by omega⟩) (show -1 ≤ v3_5 ∧ v3_5 < od from (by omega)) (show v3_5 = rlF (eC f g n ni lw) (cL wk od wf gf sf) r w (Int.toNat ((v4_5 + 1))) from (by have s9 := rlF_s (e := (eC f g n ni lw)) (L := (cL wk od wf gf sf)) (r := r) (w := w) (i := v4_5) (by omega); rw [← hrl] at s9; have k9 := KNC.c lw wk wf hKN (o := v4_5) (r := r) ⟨by omega, by omega⟩ ⟨by omega, by omega⟩; omega)) (lv_sub hl [0, 3, 4, 5, 6] rfl)
          ·
            have c_5 := mt (zlt (x := iZ w) (y := iZ (gz kf0 ((v4_5 * 6) + r))) rfl rfl ⟨by omega, by omega⟩ (gz_rg kf0 ((v4_5 * 6) + r))).mpr c_5
            refine lv_iconst (v := iZ 1) hx hb dX8_ruler_41 rfl ?_
            refine lv_goto (tgt := 46) hx hb dX8_ruler_42 rfl ?_
            refine lv_istore (lv' := [(6, .int (iZ 1)), (5, .int (iZ (gz kf0 ((v4_5 * 6) + r)))), (4, .int (iZ v4_5)), (3, .int (iZ v3_5)), (0, .ref hw1), (1, .int (iZ r)), (2, .int (iZ w))]) hx hb dX8_ruler_46 hl (bl rfl) rfl (fun ls hl => ?_)
            refine lv_iload hx hb dX8_ruler_48 (lv_at hl 0 rfl) ?_
            refine lv_if_eq (tgt := 72) hx hb dX8_ruler_50 rfl (fun c => absurd c (by decide)) (fun _ => ?_)
            refine lv_iload_n hx hb dX8_ruler_53 rfl (lv_at hl 3 rfl) ?_
            refine lv_iconst (v := iZ (-1)) hx hb dX8_ruler_54 rfl ?_
            refine lv_icmp_eq (tgt := 69) hx hb dX8_ruler_55 rfl (fun c_8 => ?_) (fun c_8 => ?_)
            ·
              have c_8 := (zeq (x := iZ v3_5) (y := iZ (-1)) rfl rfl ⟨by omega, by omega⟩ wn_m1).mp c_8
              refine lv_iload hx hb dX8_ruler_69 (lv_at hl 2 rfl) ?_
              refine lv_istore_n (lv' := [(3, .int (iZ v4_5)), (6, .int (iZ 1)), (5, .int (iZ (gz kf0 ((v4_5 * 6) + r)))), (4, .int (iZ v4_5)), (0, .ref hw1), (1, .int (iZ r)), (2, .int (iZ w))]) hx hb dX8_ruler_71 rfl hl (bl rfl) rfl (fun ls hl => ?_)
              refine lv_iinc (v := iZ (v4_5 + 1)) (lv' := [(4, .int (iZ (v4_5 + 1))), (3, .int (iZ v4_5)), (6, .int (iZ 1)), (5, .int (iZ (gz kf0 ((v4_5 * 6) + r)))), (0, .ref hw1), (1, .int (iZ r)), (2, .int (iZ w))]) hx hb dX8_ruler_72 hl (k := 3) rfl (iZ_add v4_5 1) (by decide) rfl (fun ls hl => ?_)
              refine lv_goto (tgt := 5) hx hb dX8_ruler_75 rfl ?_
              exact ih5  v4_5 (v4_5 + 1) _ (by omega) (show (0 ≤ (v4_5 + 1) ∧ (v4_5 + 1) ≤ (od - 1) + 1) from ⟨by omega, by omega⟩) (show -1 ≤ v4_5 ∧ v4_5 < od from (by omega)) (show v4_5 = rlF (eC f g n ni lw) (cL wk od wf gf sf) r w (Int.toNat ((v4_5 + 1))) from (by have s9 := rlF_s (e := (eC f g n ni lw)) (L := (cL wk od wf gf sf)) (r := r) (w := w) (i := v4_5) (by omega); rw [← hrl] at s9; have k9 := KNC.c lw wk wf hKN (o := v4_5) (r := r) ⟨by omega, by omega⟩ ⟨by omega, by omega⟩; omega)) (lv_sub hl [0, 1, 4, 5, 6] rfl)
            ·
              have c_8 := mt (zeq (x := iZ v3_5) (y := iZ (-1)) rfl rfl ⟨by omega, by omega⟩ wn_m1).mpr c_8
              have hkm := rlF_k (e := (eC f g n ni lw)) (L := (cL wk od wf gf sf)) (r := r) (w := w) (v4_5).toNat (by omega)
              rw [← hrl] at hkm
              have hkc := KNC.c lw wk wf hKN (o := v3_5) (r := r) ⟨by omega, by omega⟩ ⟨by omega, by omega⟩
              refine lv_aload_n hx hb dX8_ruler_58 rfl (lv_at hl 4 rfl) ?_
              refine lv_iload hx hb dX8_ruler_59 (lv_at hl 2 rfl) ?_
              refine lv_iload_n hx hb dX8_ruler_61 rfl (lv_at hl 3 rfl) ?_
              refine lv_iload_n hx hb dX8_ruler_62 rfl (lv_at hl 5 rfl) ?_
              refine CPV (As := [.int (iZ v4_5), .int (iZ v3_5), .int (iZ r)]) (rest := []) hx hb hml hown hts hKK hP (x_goesAhead l D k fs hs hf hg hc hy n ni lw f g hw1 cw cg cs ck wk od wf gf sf kf0 v4_5 v3_5 r f1 f2 f3 f4 f5 (by omega) hx0 ⟨by omega, by omega⟩ (by omega) ⟨by omega, by omega⟩ ⟨by omega, by omega⟩ ⟨by omega, by omega⟩ rgg0 hKN ⟨by omega, by omega⟩ ⟨by omega, by omega⟩ ⟨by omega, by omega⟩ (by omega) (by omega)) ci_X8_goesAhead qm_X8_60 ⟨Nat.le_of_ble_eq_true rfl, Nat.le_of_ble_eq_true rfl⟩ ⟨Nat.le_of_ble_eq_true rfl, Nat.le_of_ble_eq_true rfl⟩ 0 rfl rfl rfl hl.1 rfl (Nat.le_of_ble_eq_true rfl) dX8_ruler_63 (fun z_9 hz_9 => ?_)
              rcases hz_9 with ⟨qz_9, hz_9⟩ | ⟨qz_9, hz_9⟩
              ·
                subst qz_9
                refine lv_if_eq (tgt := 72) hx hb dX8_ruler_66 rfl (fun c => absurd c (by decide)) (fun _ => ?_)
                refine lv_iload hx hb dX8_ruler_69 (lv_at hl 2 rfl) ?_
                refine lv_istore_n (lv' := [(3, .int (iZ v4_5)), (6, .int (iZ 1)), (5, .int (iZ (gz kf0 ((v4_5 * 6) + r)))), (4, .int (iZ v4_5)), (0, .ref hw1), (1, .int (iZ r)), (2, .int (iZ w))]) hx hb dX8_ruler_71 rfl hl (bl rfl) rfl (fun ls hl => ?_)
                refine lv_iinc (v := iZ (v4_5 + 1)) (lv' := [(4, .int (iZ (v4_5 + 1))), (3, .int (iZ v4_5)), (6, .int (iZ 1)), (5, .int (iZ (gz kf0 ((v4_5 * 6) + r)))), (0, .ref hw1), (1, .int (iZ r)), (2, .int (iZ w))]) hx hb dX8_ruler_72 hl (k := 3) rfl (iZ_add v4_5 1) (by decide) rfl (fun ls hl => ?_)
                refine lv_goto (tgt := 5) hx hb dX8_ruler_75 rfl ?_
                exact ih5  v4_5 (v4_5 + 1) _ (by omega) (show (0 ≤ (v4_5 + 1) ∧ (v4_5 + 1) ≤ (od - 1) + 1) from ⟨by omega, by omega⟩) (show -1 ≤ v4_5 ∧ v4_5 < od from (by omega)) (show v4_5 = rlF (eC f g n ni lw) (cL wk od wf gf sf) r w (Int.toNat ((v4_5 + 1))) from (by have s9 := rlF_s (e := (eC f g n ni lw)) (L := (cL wk od wf gf sf)) (r := r) (w := w) (i := v4_5) (by omega); rw [← hrl] at s9; have k9 := KNC.c lw wk wf hKN (o := v4_5) (r := r) ⟨by omega, by omega⟩ ⟨by omega, by omega⟩; omega)) (lv_sub hl [0, 1, 4, 5, 6] rfl)
              ·
                subst qz_9
                refine lv_if_eq (tgt := 72) hx hb dX8_ruler_66 rfl (fun _ => ?_) (fun c => absurd (by decide) c)
                refine lv_iinc (v := iZ (v4_5 + 1)) (lv' := [(4, .int (iZ (v4_5 + 1))), (6, .int (iZ 1)), (5, .int (iZ (gz kf0 ((v4_5 * 6) + r)))), (3, .int (iZ v3_5)), (0, .ref hw1), (1, .int (iZ r)), (2, .int (iZ w))]) hx hb dX8_ruler_72 hl (k := 2) rfl (iZ_add v4_5 1) (by decide) rfl (fun ls hl => ?_)
                refine lv_goto (tgt := 5) hx hb dX8_ruler_75 rfl ?_
                exact ih5  v3_5 (v4_5 + 1) _ (by omega) (show (0 ≤ (v4_5 + 1) ∧ (v4_5 + 1) ≤ (od - 1) + 1) from ⟨by omega, by omega⟩) (show -1 ≤ v3_5 ∧ v3_5 < od from (by omega)) (show v3_5 = rlF (eC f g n ni lw) (cL wk od wf gf sf) r w (Int.toNat ((v4_5 + 1))) from (by have s9 := rlF_s (e := (eC f g n ni lw)) (L := (cL wk od wf gf sf)) (r := r) (w := w) (i := v4_5) (by omega); rw [← hrl] at s9; have k9 := KNC.c lw wk wf hKN (o := v4_5) (r := r) ⟨by omega, by omega⟩ ⟨by omega, by omega⟩; omega)) (lv_sub hl [0, 3, 4, 5, 6] rfl)
  exact HL5 24 (-1) 0 _ (by omega) (show (0 ≤ 0 ∧ 0 ≤ (od - 1) + 1) from ⟨by omega, by omega⟩) (show -1 ≤ (-1) ∧ (-1) < od from (by omega)) (show (-1) = rlF (eC f g n ni lw) (cL wk od wf gf sf) r w (Int.toNat (0)) from rfl) (lv_sub hl [0, 1, 2, 3, 4] rfl)
end

section
set_option maxHeartbeats 4000000 in
set_option maxRecDepth 100000 in
theorem x_wornNext (l : Launch) (D : va_G) (k : Nat → ClassId) (fs : List Value) (hL : Nat) (hw1 : Nat) (h : Nat) (hn1 : Nat) (ro : Nat) (hs : Nat) (hf : Nat) (hg : Nat) (hc : Nat) (hy : Nat) (cw : Nat) (cg : Nat) (cs : Nat) (ck : Nat) (n : Int) (ni : Int) (lw : Int) (dr : Int) (st : Int) (mi : Int) (we : Int) (tu : Int) (o0 : Int) (le : Int) (wk : Int) (od : Int) (f : Nat → Int32) (g : Nat → Int32) (wf : Nat → Int32) (r0 : Ry) (hRT : RT k (RX f g n ni) r0) (f1 : fs[1]? = some (.ref hf)) (f2 : fs[2]? = some (.ref hg)) (f3 : fs[3]? = some (.int (iZ n))) (f4 : fs[4]? = some (.int (iZ ni))) (f5 : fs[5]? = some (.int (iZ lw))) (hn : n ≤ 6) (hx0 : FXI f n) (hni : 0 ≤ ni ∧ ni ≤ 8) (hn0 : 0 ≤ n) (hlw : -2147483648 ≤ lw ∧ lw < 2147483648) (hwk : 0 ≤ wk ∧ wk < 400) : XD (σ := (Ry × (Int) × (Int64) × (Unit) × (Unit))) l yX1_wornNext cX1_wornNext 8 (some .int) 3 r0 D k [.ref hL] [(hL, .inr (1, [.ref hw1, .ref h, .ref hn1, .ref ro, .int (iZ dr), .int (iZ st), .int (iZ mi), .int (iZ we), .int (iZ tu), .int (iZ o0), .int (iZ le)])), (hw1, .inr (8, [.ref hs, .ref hc, .ref hy])), (hc, .inr (0, [.ref cw, .ref cg, .ref cs, .ref ck, .int (iZ wk), .int (iZ od)])), (cw, .inl (k 1, 401, .inl wf)), (h, .inr (3, [.ref hs, .long r0.op, r0.vA, r0.vL])), (hs, .inr (5, fs)), (hf, .inl (k 1, 36, .inl f)), (hg, .inl (k 1, 32, .inl g))] (fun u => u.1) (fun u => some (.int (iZ u.2.1))) (fun u => (u.2.1 = nxV (eC f g n ni lw) wk (cut (wk + 1) (gz wf))) ∧ (-2147483648 ≤ u.2.1 ∧ u.2.1 < 2147483648) ∧ (RT k (RX f g n ni) u.1)) (fun u => [(hL, .inr (1, [.ref hw1, .ref h, .ref hn1, .ref ro, .int (iZ dr), .int (iZ st), .int (iZ mi), .int (iZ we), .int (iZ tu), .int (iZ o0), .int (iZ le)])), (hw1, .inr (8, [.ref hs, .ref hc, .ref hy])), (hc, .inr (0, [.ref cw, .ref cg, .ref cs, .ref ck, .int (iZ wk), .int (iZ od)])), (cw, .inl (k 1, 401, .inl wf)), (h, .inr (3, [.ref hs, .long u.1.op, u.1.vA, u.1.vL])), (hs, .inr (5, fs)), (hf, .inl (k 1, 36, .inl f)), (hg, .inl (k 1, 32, .inl g))]) := by
  refine MX (by decide) (Nat.le_of_ble_eq_true rfl) (fun p e s m below meth c ls A hx hb hml hr hlocks hin hts hown hKK hP hD hS hA hl => ?_)
  have hK := hKK.1
  have hl : lv_has ls 8 [(0, .ref hL)] := hl
  refine lv_aload_n hx hb dX1_wornNext_0 rfl (lv_at hl 0 rfl) ?_
  refine va_get (D := D) (ci := 1) (v := .ref hw1) (C := RX1) (T := TX1) (N := 11) hx hb hts iX1 hown hK hP 0 rfl rfl 0 (bl rfl) (hts _ qf_X1_17) (fun _ h => h) rfl dX1_wornNext_1 ?_
  refine va_get (D := D) (ci := 8) (v := .ref hc) (C := RX8) (T := TX8) (N := 3) hx hb hts iX8 hown hK hP 1 rfl rfl 1 (bl rfl) (hts _ qf_X1_29) (fun _ h => h) rfl dX1_wornNext_4 ?_
  refine lv_astore_n (lv' := [(1, .ref hc), (0, .ref hL)]) hx hb dX1_wornNext_7 rfl hl (bl rfl) rfl (fun ls hl => ?_)
  refine lv_aload_n hx hb dX1_wornNext_8 rfl (lv_at hl 0 rfl) ?_
  refine va_get (D := D) (ci := 0) (v := .int (iZ wk)) (C := RX0) (T := TX0) (N := 6) hx hb hts iX0 hown hK hP 2 rfl rfl 4 (bl rfl) (hts _ qf_X1_35) (fun _ h => h) rfl dX1_wornNext_9 ?_
  refine lv_iconst (v := iZ 1) hx hb dX1_wornNext_12 rfl ?_
  refine lv_iadd hx hb dX1_wornNext_13 ?_
  refine lv_topi (fun x_1 ex_1 => ?_)
  obtain rfl : x_1 = iZ (wk + 1) := ex_1.trans (iZ_add wk 1)
  refine lv_istore_n (lv' := [(2, .int (iZ (wk + 1))), (1, .ref hc), (0, .ref hL)]) hx hb dX1_wornNext_14 rfl hl (bl rfl) rfl (fun ls hl => ?_)
  refine lv_iconst (v := iZ 0) hx hb dX1_wornNext_15 rfl ?_
  refine lv_istore_n (lv' := [(3, .int (iZ 0)), (2, .int (iZ (wk + 1))), (1, .ref hc), (0, .ref hL)]) hx hb dX1_wornNext_16 rfl hl (bl rfl) rfl (fun ls hl => ?_)
  refine lv_iconst (v := iZ 0) hx hb dX1_wornNext_17 rfl ?_
  refine lv_istore (lv' := [(4, .int (iZ 0)), (3, .int (iZ 0)), (2, .int (iZ (wk + 1))), (1, .ref hc), (0, .ref hL)]) hx hb dX1_wornNext_18 hl (bl rfl) rfl (fun ls hl => ?_)
  have HL20 : ∀ (fu : Nat) (r_20 : Ry) (v3_20 : Int) (v4_20 : Int) (H : Heap) (locs : List Loc) (ls : Array Slot), ((n - 1) + 2 - v4_20) < (fu : Int) → RT k (RX f g n ni) r_20 → (r_20.b = true → r0.b = true) → ((0 ≤ v4_20 ∧ v4_20 ≤ (n - 1) + 1)) → (-2147483648 ≤ v3_20 ∧ v3_20 < 2147483648) → (iZ v3_20 = bS (nxP (eC f g n ni lw) wk (cut (wk + 1) (gz wf))) (Int.toNat (v4_20))) → va_P D vwCl ((hL, .inr (1, [.ref hw1, .ref h, .ref hn1, .ref ro, .int (iZ dr), .int (iZ st), .int (iZ mi), .int (iZ we), .int (iZ tu), .int (iZ o0), .int (iZ le)])) :: (hw1, .inr (8, [.ref hs, .ref hc, .ref hy])) :: (hc, .inr (0, [.ref cw, .ref cg, .ref cs, .ref ck, .int (iZ wk), .int (iZ od)])) :: (cw, .inl (k 1, 401, .inl wf)) :: (h, .inr (3, [.ref hs, .long r_20.op, r_20.vA, r_20.vL])) :: (hs, .inr (5, fs)) :: (hf, .inl (k 1, 36, .inl f)) :: (hg, .inl (k 1, 32, .inl g)) :: r_20.tl) H → va_D A ((hL, .inr (1, [.ref hw1, .ref h, .ref hn1, .ref ro, .int (iZ dr), .int (iZ st), .int (iZ mi), .int (iZ we), .int (iZ tu), .int (iZ o0), .int (iZ le)])) :: (hw1, .inr (8, [.ref hs, .ref hc, .ref hy])) :: (hc, .inr (0, [.ref cw, .ref cg, .ref cs, .ref ck, .int (iZ wk), .int (iZ od)])) :: (cw, .inl (k 1, 401, .inl wf)) :: (h, .inr (3, [.ref hs, .long r_20.op, r_20.vA, r_20.vL])) :: (hs, .inr (5, fs)) :: (hf, .inl (k 1, 36, .inl f)) :: (hg, .inl (k 1, 32, .inl g)) :: r_20.tl) → va_S A s.heap H locs → lv_has ls 8 [(4, .int (iZ v4_20)), (3, .int (iZ v3_20)), (2, .int (iZ (wk + 1))), (1, .ref hc), (0, .ref hL)] → W p l e (rj 3 (rcN r0.b) (rsN r0.b)) s m [.ref hL].toArray below meth c H locs (cz r0.b r_20.b) (sz r0.b r_20.b) (MQ below (QX (σ := (Ry × (Int) × (Int64) × (Unit) × (Unit))) r0.b (fun u => u.1) (fun u => some (.int (iZ u.2.1))) (fun u => (u.2.1 = nxV (eC f g n ni lw) wk (cut (wk + 1) (gz wf))) ∧ (-2147483648 ≤ u.2.1 ∧ u.2.1 < 2147483648) ∧ (RT k (RX f g n ni) u.1)) (fun u => [(hL, .inr (1, [.ref hw1, .ref h, .ref hn1, .ref ro, .int (iZ dr), .int (iZ st), .int (iZ mi), .int (iZ we), .int (iZ tu), .int (iZ o0), .int (iZ le)])), (hw1, .inr (8, [.ref hs, .ref hc, .ref hy])), (hc, .inr (0, [.ref cw, .ref cg, .ref cs, .ref ck, .int (iZ wk), .int (iZ od)])), (cw, .inl (k 1, 401, .inl wf)), (h, .inr (3, [.ref hs, .long u.1.op, u.1.vA, u.1.vL])), (hs, .inr (5, fs)), (hf, .inl (k 1, 36, .inl f)), (hg, .inl (k 1, 32, .inl g))]) D A) [.ref hL].toArray s (rcN r0.b) (rsN r0.b) A) (F0 m 20 ls []) := by
    intro fu
    induction fu with
    | zero => intro r_20 v3_20 v4_20 H locs ls hμ20 rtr_20 hbr_20 hi20 hf0_20 hst hP hD hS hl; exact absurd hμ20 (by omega)
    | succ fu ih20 =>
      intro r_20 v3_20 v4_20 H locs ls hμ20 rtr_20 hbr_20 hi20 hf0_20 hst hP hD hS hl
      refine lv_iload hx hb dX1_wornNext_20 (lv_at hl 0 rfl) ?_
      refine lv_aload_n hx hb dX1_wornNext_22 rfl (lv_at hl 4 rfl) ?_
      refine va_get (D := D) (ci := 1) (v := .ref hw1) (C := RX1) (T := TX1) (N := 11) hx hb hts iX1 hown hK hP 0 rfl rfl 0 (bl rfl) (hts _ qf_X1_17) (fun _ h => h) rfl dX1_wornNext_23 ?_
      refine va_get (D := D) (ci := 8) (v := .ref hs) (C := RX8) (T := TX8) (N := 3) hx hb hts iX8 hown hK hP 1 rfl rfl 0 (bl rfl) (hts _ qf_X1_48) (fun _ h => h) rfl dX1_wornNext_26 ?_
      refine va_get (D := D) (ci := 5) (v := .int (iZ n)) (C := RX5) (T := TX5) (N := 7) hx hb hts iX5 hown hK hP 5 rfl rfl 3 (bl rfl) (hts _ qf_X1_52) (fun _ h => h) f3 dX1_wornNext_29 ?_
      refine lv_icmp_ge (tgt := 168) hx hb dX1_wornNext_32 rfl (fun c_2 => ?_) (fun c_2 => ?_)
      ·
        have c_2 := (zle (x := iZ n) (y := iZ v4_20) rfl rfl ⟨by omega, by omega⟩ ⟨by omega, by omega⟩).mp c_2
        refine lv_iload_n hx hb dX1_wornNext_168 rfl (lv_at hl 1 rfl) ?_
        exact EXi hx hb hr hlocks hbr_20 hS (r_20, v3_20, 0, (), ()) rfl rfl ⟨(show v3_20 = nxV (eC f g n ni lw) wk (cut (wk + 1) (gz wf)) from (nxV_eq (e := (eC f g n ni lw)) (by have e9 : v4_20 = n := (by omega); rw [e9] at hst; exact hst) ⟨by omega, by omega⟩)), (show -2147483648 ≤ v3_20 ∧ v3_20 < 2147483648 from (by omega)), rtr_20⟩ (va_P.subT (pre := [(hL, .inr (1, [.ref hw1, .ref h, .ref hn1, .ref ro, .int (iZ dr), .int (iZ st), .int (iZ mi), .int (iZ we), .int (iZ tu), .int (iZ o0), .int (iZ le)])), (hw1, .inr (8, [.ref hs, .ref hc, .ref hy])), (hc, .inr (0, [.ref cw, .ref cg, .ref cs, .ref ck, .int (iZ wk), .int (iZ od)])), (cw, .inl (k 1, 401, .inl wf)), (h, .inr (3, [.ref hs, .long r_20.op, r_20.vA, r_20.vL])), (hs, .inr (5, fs)), (hf, .inl (k 1, 36, .inl f)), (hg, .inl (k 1, 32, .inl g))]) (pre' := [(hL, .inr (1, [.ref hw1, .ref h, .ref hn1, .ref ro, .int (iZ dr), .int (iZ st), .int (iZ mi), .int (iZ we), .int (iZ tu), .int (iZ o0), .int (iZ le)])), (hw1, .inr (8, [.ref hs, .ref hc, .ref hy])), (hc, .inr (0, [.ref cw, .ref cg, .ref cs, .ref ck, .int (iZ wk), .int (iZ od)])), (cw, .inl (k 1, 401, .inl wf)), (h, .inr (3, [.ref hs, .long r_20.op, r_20.vA, r_20.vL])), (hs, .inr (5, fs)), (hf, .inl (k 1, 36, .inl f)), (hg, .inl (k 1, 32, .inl g))]) (tl := r_20.tl) hP [0, 1, 2, 3, 4, 5, 6, 7] rfl) (va_D.subT (pre := [(hL, .inr (1, [.ref hw1, .ref h, .ref hn1, .ref ro, .int (iZ dr), .int (iZ st), .int (iZ mi), .int (iZ we), .int (iZ tu), .int (iZ o0), .int (iZ le)])), (hw1, .inr (8, [.ref hs, .ref hc, .ref hy])), (hc, .inr (0, [.ref cw, .ref cg, .ref cs, .ref ck, .int (iZ wk), .int (iZ od)])), (cw, .inl (k 1, 401, .inl wf)), (h, .inr (3, [.ref hs, .long r_20.op, r_20.vA, r_20.vL])), (hs, .inr (5, fs)), (hf, .inl (k 1, 36, .inl f)), (hg, .inl (k 1, 32, .inl g))]) (pre' := [(hL, .inr (1, [.ref hw1, .ref h, .ref hn1, .ref ro, .int (iZ dr), .int (iZ st), .int (iZ mi), .int (iZ we), .int (iZ tu), .int (iZ o0), .int (iZ le)])), (hw1, .inr (8, [.ref hs, .ref hc, .ref hy])), (hc, .inr (0, [.ref cw, .ref cg, .ref cs, .ref ck, .int (iZ wk), .int (iZ od)])), (cw, .inl (k 1, 401, .inl wf)), (h, .inr (3, [.ref hs, .long r_20.op, r_20.vA, r_20.vL])), (hs, .inr (5, fs)), (hf, .inl (k 1, 36, .inl f)), (hg, .inl (k 1, 32, .inl g))]) (tl := r_20.tl) hD [0, 1, 2, 3, 4, 5, 6, 7] rfl rfl) dX1_wornNext_169
      ·
        have c_2 := mt (zle (x := iZ n) (y := iZ v4_20) rfl rfl ⟨by omega, by omega⟩ ⟨by omega, by omega⟩).mpr c_2
        refine lv_iconst (v := iZ 0) hx hb dX1_wornNext_35 rfl ?_
        refine lv_istore (lv' := [(5, .int (iZ 0)), (4, .int (iZ v4_20)), (3, .int (iZ v3_20)), (2, .int (iZ (wk + 1))), (1, .ref hc), (0, .ref hL)]) hx hb dX1_wornNext_36 hl (bl rfl) rfl (fun ls hl => ?_)
        refine lv_iconst (v := iZ 0) hx hb dX1_wornNext_38 rfl ?_
        refine lv_istore (lv' := [(6, .int (iZ 0)), (5, .int (iZ 0)), (4, .int (iZ v4_20)), (3, .int (iZ v3_20)), (2, .int (iZ (wk + 1))), (1, .ref hc), (0, .ref hL)]) hx hb dX1_wornNext_39 hl (bl rfl) rfl (fun ls hl => ?_)
        have HL41 : ∀ (fu : Nat) (r_41 : Ry) (v5_41 : Int) (v6_41 : Int) (H : Heap) (locs : List Loc) (ls : Array Slot), ((n - 1) + 2 - v6_41) < (fu : Int) → RT k (RX f g n ni) r_41 → (r_41.b = true → r0.b = true) → ((0 ≤ v6_41 ∧ v6_41 ≤ (n - 1) + 1)) → (-v6_41 ≤ v5_41 ∧ v5_41 ≤ v6_41) → (v5_41 = mrF (eC f g n ni lw) wk (cut (wk + 1) (gz wf)) v4_20 (Int.toNat (v6_41))) → va_P D vwCl ((hL, .inr (1, [.ref hw1, .ref h, .ref hn1, .ref ro, .int (iZ dr), .int (iZ st), .int (iZ mi), .int (iZ we), .int (iZ tu), .int (iZ o0), .int (iZ le)])) :: (hw1, .inr (8, [.ref hs, .ref hc, .ref hy])) :: (hc, .inr (0, [.ref cw, .ref cg, .ref cs, .ref ck, .int (iZ wk), .int (iZ od)])) :: (cw, .inl (k 1, 401, .inl wf)) :: (h, .inr (3, [.ref hs, .long r_41.op, r_41.vA, r_41.vL])) :: (hs, .inr (5, fs)) :: (hf, .inl (k 1, 36, .inl f)) :: (hg, .inl (k 1, 32, .inl g)) :: r_41.tl) H → va_D A ((hL, .inr (1, [.ref hw1, .ref h, .ref hn1, .ref ro, .int (iZ dr), .int (iZ st), .int (iZ mi), .int (iZ we), .int (iZ tu), .int (iZ o0), .int (iZ le)])) :: (hw1, .inr (8, [.ref hs, .ref hc, .ref hy])) :: (hc, .inr (0, [.ref cw, .ref cg, .ref cs, .ref ck, .int (iZ wk), .int (iZ od)])) :: (cw, .inl (k 1, 401, .inl wf)) :: (h, .inr (3, [.ref hs, .long r_41.op, r_41.vA, r_41.vL])) :: (hs, .inr (5, fs)) :: (hf, .inl (k 1, 36, .inl f)) :: (hg, .inl (k 1, 32, .inl g)) :: r_41.tl) → va_S A s.heap H locs → lv_has ls 8 [(6, .int (iZ v6_41)), (5, .int (iZ v5_41)), (4, .int (iZ v4_20)), (3, .int (iZ v3_20)), (2, .int (iZ (wk + 1))), (1, .ref hc), (0, .ref hL)] → W p l e (rj 3 (rcN r0.b) (rsN r0.b)) s m [.ref hL].toArray below meth c H locs (cz r0.b r_41.b) (sz r0.b r_41.b) (MQ below (QX (σ := (Ry × (Int) × (Int64) × (Unit) × (Unit))) r0.b (fun u => u.1) (fun u => some (.int (iZ u.2.1))) (fun u => (u.2.1 = nxV (eC f g n ni lw) wk (cut (wk + 1) (gz wf))) ∧ (-2147483648 ≤ u.2.1 ∧ u.2.1 < 2147483648) ∧ (RT k (RX f g n ni) u.1)) (fun u => [(hL, .inr (1, [.ref hw1, .ref h, .ref hn1, .ref ro, .int (iZ dr), .int (iZ st), .int (iZ mi), .int (iZ we), .int (iZ tu), .int (iZ o0), .int (iZ le)])), (hw1, .inr (8, [.ref hs, .ref hc, .ref hy])), (hc, .inr (0, [.ref cw, .ref cg, .ref cs, .ref ck, .int (iZ wk), .int (iZ od)])), (cw, .inl (k 1, 401, .inl wf)), (h, .inr (3, [.ref hs, .long u.1.op, u.1.vA, u.1.vL])), (hs, .inr (5, fs)), (hf, .inl (k 1, 36, .inl f)), (hg, .inl (k 1, 32, .inl g))]) D A) [.ref hL].toArray s (rcN r0.b) (rsN r0.b) A) (F0 m 41 ls []) := by
          intro fu
          induction fu with
          | zero => intro r_41 v5_41 v6_41 H locs ls hμ41 rtr_41 hbr_41 hi41 hf0_41 hmr hP hD hS hl; exact absurd hμ41 (by omega)
          | succ fu ih41 =>
            intro r_41 v5_41 v6_41 H locs ls hμ41 rtr_41 hbr_41 hi41 hf0_41 hmr hP hD hS hl
            refine lv_iload hx hb dX1_wornNext_41 (lv_at hl 0 rfl) ?_
            refine lv_aload_n hx hb dX1_wornNext_43 rfl (lv_at hl 6 rfl) ?_
            refine va_get (D := D) (ci := 1) (v := .ref hw1) (C := RX1) (T := TX1) (N := 11) hx hb hts iX1 hown hK hP 0 rfl rfl 0 (bl rfl) (hts _ qf_X1_17) (fun _ h => h) rfl dX1_wornNext_44 ?_
            refine va_get (D := D) (ci := 8) (v := .ref hs) (C := RX8) (T := TX8) (N := 3) hx hb hts iX8 hown hK hP 1 rfl rfl 0 (bl rfl) (hts _ qf_X1_48) (fun _ h => h) rfl dX1_wornNext_47 ?_
            refine va_get (D := D) (ci := 5) (v := .int (iZ n)) (C := RX5) (T := TX5) (N := 7) hx hb hts iX5 hown hK hP 5 rfl rfl 3 (bl rfl) (hts _ qf_X1_52) (fun _ h => h) f3 dX1_wornNext_50 ?_
            refine lv_icmp_ge (tgt := 115) hx hb dX1_wornNext_53 rfl (fun c_3 => ?_) (fun c_3 => ?_)
            ·
              have c_3 := (zle (x := iZ n) (y := iZ v6_41) rfl rfl ⟨by omega, by omega⟩ ⟨by omega, by omega⟩).mp c_3
              refine lv_iload hx hb dX1_wornNext_115 (lv_at hl 1 rfl) ?_
              refine lv_if_gt (tgt := 139) hx hb dX1_wornNext_117 rfl (fun c_4 => ?_) (fun c_4 => ?_)
              ·
                have c_4 := (zlt (x := iZ 0) (y := iZ v5_41) rfl rfl wn_0 ⟨by omega, by omega⟩).mp c_4
                refine lv_iconst (v := iZ 1) hx hb dX1_wornNext_139 rfl ?_
                refine lv_goto (tgt := 144) hx hb dX1_wornNext_140 rfl ?_
                refine lv_istore (lv' := [(6, .int (iZ 1)), (5, .int (iZ v5_41)), (4, .int (iZ v4_20)), (3, .int (iZ v3_20)), (2, .int (iZ (wk + 1))), (1, .ref hc), (0, .ref hL)]) hx hb dX1_wornNext_144 hl (bl rfl) rfl (fun ls hl => ?_)
                refine lv_iload_n hx hb dX1_wornNext_146 rfl (lv_at hl 3 rfl) ?_
                refine lv_iload hx hb dX1_wornNext_147 (lv_at hl 0 rfl) ?_
                refine lv_if_eq (tgt := 159) hx hb dX1_wornNext_149 rfl (fun c => absurd c (by decide)) (fun _ => ?_)
                refine lv_iconst (v := iZ 1) hx hb dX1_wornNext_152 rfl ?_
                refine lv_iload hx hb dX1_wornNext_153 (lv_at hl 2 rfl) ?_
                refine lv_ishl hx hb dX1_wornNext_155 ?_
                refine lv_topi (fun x_7 ex_7 => ?_)
                obtain ⟨z_6, hz_6, hz_6a, hz_6b⟩ := i32_z x_7
                subst hz_6
                refine lv_goto (tgt := 160) hx hb dX1_wornNext_156 rfl ?_
                refine lv_ior hx hb dX1_wornNext_160 ?_
                refine lv_topi (fun x_9 ex_9 => ?_)
                obtain ⟨z_8, hz_8, hz_8a, hz_8b⟩ := i32_z x_9
                subst hz_8
                refine lv_istore_n (lv' := [(3, .int (iZ z_8)), (6, .int (iZ 1)), (5, .int (iZ v5_41)), (4, .int (iZ v4_20)), (2, .int (iZ (wk + 1))), (1, .ref hc), (0, .ref hL)]) hx hb dX1_wornNext_161 rfl hl (bl rfl) rfl (fun ls hl => ?_)
                refine lv_iinc (v := iZ (v4_20 + 1)) (lv' := [(4, .int (iZ (v4_20 + 1))), (3, .int (iZ z_8)), (6, .int (iZ 1)), (5, .int (iZ v5_41)), (2, .int (iZ (wk + 1))), (1, .ref hc), (0, .ref hL)]) hx hb dX1_wornNext_162 hl (k := 3) rfl (iZ_add v4_20 1) (by decide) rfl (fun ls hl => ?_)
                refine lv_goto (tgt := 20) hx hb dX1_wornNext_165 rfl ?_
                exact ih20  r_41 z_8 (v4_20 + 1) _ _ _ (by omega) rtr_41 hbr_41 (show (0 ≤ (v4_20 + 1) ∧ (v4_20 + 1) ≤ (n - 1) + 1) from ⟨by omega, by omega⟩) (show -2147483648 ≤ z_8 ∧ z_8 < 2147483648 from (by omega)) (show iZ z_8 = bS (nxP (eC f g n ni lw) wk (cut (wk + 1) (gz wf))) (Int.toNat ((v4_20 + 1))) from (sB_y hst (by omega) (nx_y (by omega) (by have e9 : v6_41 = n := (by omega); rw [e9] at hmr; omega)) ex_7 ex_9)) (va_P.subT (pre := [(hL, .inr (1, [.ref hw1, .ref h, .ref hn1, .ref ro, .int (iZ dr), .int (iZ st), .int (iZ mi), .int (iZ we), .int (iZ tu), .int (iZ o0), .int (iZ le)])), (hw1, .inr (8, [.ref hs, .ref hc, .ref hy])), (hc, .inr (0, [.ref cw, .ref cg, .ref cs, .ref ck, .int (iZ wk), .int (iZ od)])), (cw, .inl (k 1, 401, .inl wf)), (h, .inr (3, [.ref hs, .long r_41.op, r_41.vA, r_41.vL])), (hs, .inr (5, fs)), (hf, .inl (k 1, 36, .inl f)), (hg, .inl (k 1, 32, .inl g))]) (pre' := [(hL, .inr (1, [.ref hw1, .ref h, .ref hn1, .ref ro, .int (iZ dr), .int (iZ st), .int (iZ mi), .int (iZ we), .int (iZ tu), .int (iZ o0), .int (iZ le)])), (hw1, .inr (8, [.ref hs, .ref hc, .ref hy])), (hc, .inr (0, [.ref cw, .ref cg, .ref cs, .ref ck, .int (iZ wk), .int (iZ od)])), (cw, .inl (k 1, 401, .inl wf)), (h, .inr (3, [.ref hs, .long r_41.op, r_41.vA, r_41.vL])), (hs, .inr (5, fs)), (hf, .inl (k 1, 36, .inl f)), (hg, .inl (k 1, 32, .inl g))]) (tl := r_41.tl) hP [0, 1, 2, 3, 4, 5, 6, 7] rfl) (va_D.subT (pre := [(hL, .inr (1, [.ref hw1, .ref h, .ref hn1, .ref ro, .int (iZ dr), .int (iZ st), .int (iZ mi), .int (iZ we), .int (iZ tu), .int (iZ o0), .int (iZ le)])), (hw1, .inr (8, [.ref hs, .ref hc, .ref hy])), (hc, .inr (0, [.ref cw, .ref cg, .ref cs, .ref ck, .int (iZ wk), .int (iZ od)])), (cw, .inl (k 1, 401, .inl wf)), (h, .inr (3, [.ref hs, .long r_41.op, r_41.vA, r_41.vL])), (hs, .inr (5, fs)), (hf, .inl (k 1, 36, .inl f)), (hg, .inl (k 1, 32, .inl g))]) (pre' := [(hL, .inr (1, [.ref hw1, .ref h, .ref hn1, .ref ro, .int (iZ dr), .int (iZ st), .int (iZ mi), .int (iZ we), .int (iZ tu), .int (iZ o0), .int (iZ le)])), (hw1, .inr (8, [.ref hs, .ref hc, .ref hy])), (hc, .inr (0, [.ref cw, .ref cg, .ref cs, .ref ck, .int (iZ wk), .int (iZ od)])), (cw, .inl (k 1, 401, .inl wf)), (h, .inr (3, [.ref hs, .long r_41.op, r_41.vA, r_41.vL])), (hs, .inr (5, fs)), (hf, .inl (k 1, 36, .inl f)), (hg, .inl (k 1, 32, .inl g))]) (tl := r_41.tl) hD [0, 1, 2, 3, 4, 5, 6, 7] rfl rfl) hS (lv_sub hl [0, 1, 4, 5, 6] rfl)
              ·
                have c_4 := mt (zlt (x := iZ 0) (y := iZ v5_41) rfl rfl wn_0 ⟨by omega, by omega⟩).mpr c_4
                refine lv_iload hx hb dX1_wornNext_120 (lv_at hl 1 rfl) ?_
                refine lv_if_ne (tgt := 143) hx hb dX1_wornNext_122 rfl (fun c_10 => ?_) (fun c_10 => ?_)
                ·
                  have c_10 := mt (zeq (x := iZ v5_41) (y := iZ 0) rfl rfl ⟨by omega, by omega⟩ wn_0).mpr c_10
                  refine lv_iconst (v := iZ 0) hx hb dX1_wornNext_143 rfl ?_
                  refine lv_istore (lv' := [(6, .int (iZ 0)), (5, .int (iZ v5_41)), (4, .int (iZ v4_20)), (3, .int (iZ v3_20)), (2, .int (iZ (wk + 1))), (1, .ref hc), (0, .ref hL)]) hx hb dX1_wornNext_144 hl (bl rfl) rfl (fun ls hl => ?_)
                  refine lv_iload_n hx hb dX1_wornNext_146 rfl (lv_at hl 3 rfl) ?_
                  refine lv_iload hx hb dX1_wornNext_147 (lv_at hl 0 rfl) ?_
                  refine lv_if_eq (tgt := 159) hx hb dX1_wornNext_149 rfl (fun _ => ?_) (fun c => absurd (by decide) c)
                  refine lv_iconst (v := iZ 0) hx hb dX1_wornNext_159 rfl ?_
                  refine lv_ior hx hb dX1_wornNext_160 ?_
                  refine lv_topi (fun x_13 ex_13 => ?_)
                  obtain ⟨z_12, hz_12, hz_12a, hz_12b⟩ := i32_z x_13
                  subst hz_12
                  refine lv_istore_n (lv' := [(3, .int (iZ z_12)), (6, .int (iZ 0)), (5, .int (iZ v5_41)), (4, .int (iZ v4_20)), (2, .int (iZ (wk + 1))), (1, .ref hc), (0, .ref hL)]) hx hb dX1_wornNext_161 rfl hl (bl rfl) rfl (fun ls hl => ?_)
                  refine lv_iinc (v := iZ (v4_20 + 1)) (lv' := [(4, .int (iZ (v4_20 + 1))), (3, .int (iZ z_12)), (6, .int (iZ 0)), (5, .int (iZ v5_41)), (2, .int (iZ (wk + 1))), (1, .ref hc), (0, .ref hL)]) hx hb dX1_wornNext_162 hl (k := 3) rfl (iZ_add v4_20 1) (by decide) rfl (fun ls hl => ?_)
                  refine lv_goto (tgt := 20) hx hb dX1_wornNext_165 rfl ?_
                  exact ih20  r_41 z_12 (v4_20 + 1) _ _ _ (by omega) rtr_41 hbr_41 (show (0 ≤ (v4_20 + 1) ∧ (v4_20 + 1) ≤ (n - 1) + 1) from ⟨by omega, by omega⟩) (show -2147483648 ≤ z_12 ∧ z_12 < 2147483648 from (by omega)) (show iZ z_12 = bS (nxP (eC f g n ni lw) wk (cut (wk + 1) (gz wf))) (Int.toNat ((v4_20 + 1))) from (sB_r hst (by omega) (nx_n (by omega) (by have e9 : v6_41 = n := (by omega); rw [e9] at hmr; omega)) ex_13)) (va_P.subT (pre := [(hL, .inr (1, [.ref hw1, .ref h, .ref hn1, .ref ro, .int (iZ dr), .int (iZ st), .int (iZ mi), .int (iZ we), .int (iZ tu), .int (iZ o0), .int (iZ le)])), (hw1, .inr (8, [.ref hs, .ref hc, .ref hy])), (hc, .inr (0, [.ref cw, .ref cg, .ref cs, .ref ck, .int (iZ wk), .int (iZ od)])), (cw, .inl (k 1, 401, .inl wf)), (h, .inr (3, [.ref hs, .long r_41.op, r_41.vA, r_41.vL])), (hs, .inr (5, fs)), (hf, .inl (k 1, 36, .inl f)), (hg, .inl (k 1, 32, .inl g))]) (pre' := [(hL, .inr (1, [.ref hw1, .ref h, .ref hn1, .ref ro, .int (iZ dr), .int (iZ st), .int (iZ mi), .int (iZ we), .int (iZ tu), .int (iZ o0), .int (iZ le)])), (hw1, .inr (8, [.ref hs, .ref hc, .ref hy])), (hc, .inr (0, [.ref cw, .ref cg, .ref cs, .ref ck, .int (iZ wk), .int (iZ od)])), (cw, .inl (k 1, 401, .inl wf)), (h, .inr (3, [.ref hs, .long r_41.op, r_41.vA, r_41.vL])), (hs, .inr (5, fs)), (hf, .inl (k 1, 36, .inl f)), (hg, .inl (k 1, 32, .inl g))]) (tl := r_41.tl) hP [0, 1, 2, 3, 4, 5, 6, 7] rfl) (va_D.subT (pre := [(hL, .inr (1, [.ref hw1, .ref h, .ref hn1, .ref ro, .int (iZ dr), .int (iZ st), .int (iZ mi), .int (iZ we), .int (iZ tu), .int (iZ o0), .int (iZ le)])), (hw1, .inr (8, [.ref hs, .ref hc, .ref hy])), (hc, .inr (0, [.ref cw, .ref cg, .ref cs, .ref ck, .int (iZ wk), .int (iZ od)])), (cw, .inl (k 1, 401, .inl wf)), (h, .inr (3, [.ref hs, .long r_41.op, r_41.vA, r_41.vL])), (hs, .inr (5, fs)), (hf, .inl (k 1, 36, .inl f)), (hg, .inl (k 1, 32, .inl g))]) (pre' := [(hL, .inr (1, [.ref hw1, .ref h, .ref hn1, .ref ro, .int (iZ dr), .int (iZ st), .int (iZ mi), .int (iZ we), .int (iZ tu), .int (iZ o0), .int (iZ le)])), (hw1, .inr (8, [.ref hs, .ref hc, .ref hy])), (hc, .inr (0, [.ref cw, .ref cg, .ref cs, .ref ck, .int (iZ wk), .int (iZ od)])), (cw, .inl (k 1, 401, .inl wf)), (h, .inr (3, [.ref hs, .long r_41.op, r_41.vA, r_41.vL])), (hs, .inr (5, fs)), (hf, .inl (k 1, 36, .inl f)), (hg, .inl (k 1, 32, .inl g))]) (tl := r_41.tl) hD [0, 1, 2, 3, 4, 5, 6, 7] rfl rfl) hS (lv_sub hl [0, 1, 4, 5, 6] rfl)
                ·
                  have c_10 := (zeq (x := iZ v5_41) (y := iZ 0) rfl rfl ⟨by omega, by omega⟩ wn_0).mp c_10
                  refine lv_aload_n hx hb dX1_wornNext_125 rfl (lv_at hl 5 rfl) ?_
                  refine lv_iload hx hb dX1_wornNext_126 (lv_at hl 2 rfl) ?_
                  refine lv_aload_n hx hb dX1_wornNext_128 rfl (lv_at hl 5 rfl) ?_
                  refine va_get (D := D) (ci := 0) (v := .int (iZ wk)) (C := RX0) (T := TX0) (N := 6) hx hb hts iX0 hown hK hP 2 rfl rfl 4 (bl rfl) (hts _ qf_X1_35) (fun _ h => h) rfl dX1_wornNext_129 ?_
                  refine CPV (As := [.int (iZ v4_20), .int (iZ wk)]) (rest := []) hx hb hml hown hts hKK (hP.sub (ws' := [(hc, .inr (0, [.ref cw, .ref cg, .ref cs, .ref ck, .int (iZ wk), .int (iZ od)])), (cw, .inl (k 1, 401, .inl wf))]) [2, 3] rfl) (k_wornIn l D k hc cw [.ref cw, .ref cg, .ref cs, .ref ck, .int (iZ wk), .int (iZ od)] rfl wf v4_20 wk ⟨by omega, by omega⟩) ci_X0_wornIn qm_X1_63 ⟨Nat.le_of_ble_eq_true rfl, Nat.le_of_ble_eq_true rfl⟩ ⟨cz_le _ _, sz_le _ _⟩ 0 rfl rfl rfl hl.1 rfl (Nat.le_of_ble_eq_true rfl) dX1_wornNext_132 (fun z_14 hz_14 => ?_)
                  have hbz_14 := hz_14.2
                  refine lv_iconst (v := iZ 1) hx hb dX1_wornNext_135 rfl ?_
                  refine lv_icmp_ne (tgt := 143) hx hb dX1_wornNext_136 rfl (fun c_15 => ?_) (fun c_15 => ?_)
                  ·
                    have c_15 := mt (zeq (x := iZ z_14) (y := iZ 1) rfl rfl ⟨by omega, by omega⟩ wn_1).mpr c_15
                    refine lv_iconst (v := iZ 0) hx hb dX1_wornNext_143 rfl ?_
                    refine lv_istore (lv' := [(6, .int (iZ 0)), (5, .int (iZ v5_41)), (4, .int (iZ v4_20)), (3, .int (iZ v3_20)), (2, .int (iZ (wk + 1))), (1, .ref hc), (0, .ref hL)]) hx hb dX1_wornNext_144 hl (bl rfl) rfl (fun ls hl => ?_)
                    refine lv_iload_n hx hb dX1_wornNext_146 rfl (lv_at hl 3 rfl) ?_
                    refine lv_iload hx hb dX1_wornNext_147 (lv_at hl 0 rfl) ?_
                    refine lv_if_eq (tgt := 159) hx hb dX1_wornNext_149 rfl (fun _ => ?_) (fun c => absurd (by decide) c)
                    refine lv_iconst (v := iZ 0) hx hb dX1_wornNext_159 rfl ?_
                    refine lv_ior hx hb dX1_wornNext_160 ?_
                    refine lv_topi (fun x_18 ex_18 => ?_)
                    obtain ⟨z_17, hz_17, hz_17a, hz_17b⟩ := i32_z x_18
                    subst hz_17
                    refine lv_istore_n (lv' := [(3, .int (iZ z_17)), (6, .int (iZ 0)), (5, .int (iZ v5_41)), (4, .int (iZ v4_20)), (2, .int (iZ (wk + 1))), (1, .ref hc), (0, .ref hL)]) hx hb dX1_wornNext_161 rfl hl (bl rfl) rfl (fun ls hl => ?_)
                    refine lv_iinc (v := iZ (v4_20 + 1)) (lv' := [(4, .int (iZ (v4_20 + 1))), (3, .int (iZ z_17)), (6, .int (iZ 0)), (5, .int (iZ v5_41)), (2, .int (iZ (wk + 1))), (1, .ref hc), (0, .ref hL)]) hx hb dX1_wornNext_162 hl (k := 3) rfl (iZ_add v4_20 1) (by decide) rfl (fun ls hl => ?_)
                    refine lv_goto (tgt := 20) hx hb dX1_wornNext_165 rfl ?_
                    exact ih20  r_41 z_17 (v4_20 + 1) _ _ _ (by omega) rtr_41 hbr_41 (show (0 ≤ (v4_20 + 1) ∧ (v4_20 + 1) ≤ (n - 1) + 1) from ⟨by omega, by omega⟩) (show -2147483648 ≤ z_17 ∧ z_17 < 2147483648 from (by omega)) (show iZ z_17 = bS (nxP (eC f g n ni lw) wk (cut (wk + 1) (gz wf))) (Int.toNat ((v4_20 + 1))) from (sB_r hst (by omega) (nx_n (by omega) (by have e9 : v6_41 = n := (by omega); rw [e9] at hmr; have b9 := wB_eq hz_14.1 hz_14.2; omega)) ex_18)) (va_P.subT (pre := [(hL, .inr (1, [.ref hw1, .ref h, .ref hn1, .ref ro, .int (iZ dr), .int (iZ st), .int (iZ mi), .int (iZ we), .int (iZ tu), .int (iZ o0), .int (iZ le)])), (hw1, .inr (8, [.ref hs, .ref hc, .ref hy])), (hc, .inr (0, [.ref cw, .ref cg, .ref cs, .ref ck, .int (iZ wk), .int (iZ od)])), (cw, .inl (k 1, 401, .inl wf)), (h, .inr (3, [.ref hs, .long r_41.op, r_41.vA, r_41.vL])), (hs, .inr (5, fs)), (hf, .inl (k 1, 36, .inl f)), (hg, .inl (k 1, 32, .inl g))]) (pre' := [(hL, .inr (1, [.ref hw1, .ref h, .ref hn1, .ref ro, .int (iZ dr), .int (iZ st), .int (iZ mi), .int (iZ we), .int (iZ tu), .int (iZ o0), .int (iZ le)])), (hw1, .inr (8, [.ref hs, .ref hc, .ref hy])), (hc, .inr (0, [.ref cw, .ref cg, .ref cs, .ref ck, .int (iZ wk), .int (iZ od)])), (cw, .inl (k 1, 401, .inl wf)), (h, .inr (3, [.ref hs, .long r_41.op, r_41.vA, r_41.vL])), (hs, .inr (5, fs)), (hf, .inl (k 1, 36, .inl f)), (hg, .inl (k 1, 32, .inl g))]) (tl := r_41.tl) hP [0, 1, 2, 3, 4, 5, 6, 7] rfl) (va_D.subT (pre := [(hL, .inr (1, [.ref hw1, .ref h, .ref hn1, .ref ro, .int (iZ dr), .int (iZ st), .int (iZ mi), .int (iZ we), .int (iZ tu), .int (iZ o0), .int (iZ le)])), (hw1, .inr (8, [.ref hs, .ref hc, .ref hy])), (hc, .inr (0, [.ref cw, .ref cg, .ref cs, .ref ck, .int (iZ wk), .int (iZ od)])), (cw, .inl (k 1, 401, .inl wf)), (h, .inr (3, [.ref hs, .long r_41.op, r_41.vA, r_41.vL])), (hs, .inr (5, fs)), (hf, .inl (k 1, 36, .inl f)), (hg, .inl (k 1, 32, .inl g))]) (pre' := [(hL, .inr (1, [.ref hw1, .ref h, .ref hn1, .ref ro, .int (iZ dr), .int (iZ st), .int (iZ mi), .int (iZ we), .int (iZ tu), .int (iZ o0), .int (iZ le)])), (hw1, .inr (8, [.ref hs, .ref hc, .ref hy])), (hc, .inr (0, [.ref cw, .ref cg, .ref cs, .ref ck, .int (iZ wk), .int (iZ od)])), (cw, .inl (k 1, 401, .inl wf)), (h, .inr (3, [.ref hs, .long r_41.op, r_41.vA, r_41.vL])), (hs, .inr (5, fs)), (hf, .inl (k 1, 36, .inl f)), (hg, .inl (k 1, 32, .inl g))]) (tl := r_41.tl) hD [0, 1, 2, 3, 4, 5, 6, 7] rfl rfl) hS (lv_sub hl [0, 1, 4, 5, 6] rfl)
                  ·
                    have c_15 := (zeq (x := iZ z_14) (y := iZ 1) rfl rfl ⟨by omega, by omega⟩ wn_1).mp c_15
                    refine lv_iconst (v := iZ 1) hx hb dX1_wornNext_139 rfl ?_
                    refine lv_goto (tgt := 144) hx hb dX1_wornNext_140 rfl ?_
                    refine lv_istore (lv' := [(6, .int (iZ 1)), (5, .int (iZ v5_41)), (4, .int (iZ v4_20)), (3, .int (iZ v3_20)), (2, .int (iZ (wk + 1))), (1, .ref hc), (0, .ref hL)]) hx hb dX1_wornNext_144 hl (bl rfl) rfl (fun ls hl => ?_)
                    refine lv_iload_n hx hb dX1_wornNext_146 rfl (lv_at hl 3 rfl) ?_
                    refine lv_iload hx hb dX1_wornNext_147 (lv_at hl 0 rfl) ?_
                    refine lv_if_eq (tgt := 159) hx hb dX1_wornNext_149 rfl (fun c => absurd c (by decide)) (fun _ => ?_)
                    refine lv_iconst (v := iZ 1) hx hb dX1_wornNext_152 rfl ?_
                    refine lv_iload hx hb dX1_wornNext_153 (lv_at hl 2 rfl) ?_
                    refine lv_ishl hx hb dX1_wornNext_155 ?_
                    refine lv_topi (fun x_21 ex_21 => ?_)
                    obtain ⟨z_20, hz_20, hz_20a, hz_20b⟩ := i32_z x_21
                    subst hz_20
                    refine lv_goto (tgt := 160) hx hb dX1_wornNext_156 rfl ?_
                    refine lv_ior hx hb dX1_wornNext_160 ?_
                    refine lv_topi (fun x_23 ex_23 => ?_)
                    obtain ⟨z_22, hz_22, hz_22a, hz_22b⟩ := i32_z x_23
                    subst hz_22
                    refine lv_istore_n (lv' := [(3, .int (iZ z_22)), (6, .int (iZ 1)), (5, .int (iZ v5_41)), (4, .int (iZ v4_20)), (2, .int (iZ (wk + 1))), (1, .ref hc), (0, .ref hL)]) hx hb dX1_wornNext_161 rfl hl (bl rfl) rfl (fun ls hl => ?_)
                    refine lv_iinc (v := iZ (v4_20 + 1)) (lv' := [(4, .int (iZ (v4_20 + 1))), (3, .int (iZ z_22)), (6, .int (iZ 1)), (5, .int (iZ v5_41)), (2, .int (iZ (wk + 1))), (1, .ref hc), (0, .ref hL)]) hx hb dX1_wornNext_162 hl (k := 3) rfl (iZ_add v4_20 1) (by decide) rfl (fun ls hl => ?_)
                    refine lv_goto (tgt := 20) hx hb dX1_wornNext_165 rfl ?_
                    exact ih20  r_41 z_22 (v4_20 + 1) _ _ _ (by omega) rtr_41 hbr_41 (show (0 ≤ (v4_20 + 1) ∧ (v4_20 + 1) ≤ (n - 1) + 1) from ⟨by omega, by omega⟩) (show -2147483648 ≤ z_22 ∧ z_22 < 2147483648 from (by omega)) (show iZ z_22 = bS (nxP (eC f g n ni lw) wk (cut (wk + 1) (gz wf))) (Int.toNat ((v4_20 + 1))) from (sB_y hst (by omega) (nx_y (by omega) (by have e9 : v6_41 = n := (by omega); rw [e9] at hmr; have b9 := wB_eq hz_14.1 hz_14.2; omega)) ex_21 ex_23)) (va_P.subT (pre := [(hL, .inr (1, [.ref hw1, .ref h, .ref hn1, .ref ro, .int (iZ dr), .int (iZ st), .int (iZ mi), .int (iZ we), .int (iZ tu), .int (iZ o0), .int (iZ le)])), (hw1, .inr (8, [.ref hs, .ref hc, .ref hy])), (hc, .inr (0, [.ref cw, .ref cg, .ref cs, .ref ck, .int (iZ wk), .int (iZ od)])), (cw, .inl (k 1, 401, .inl wf)), (h, .inr (3, [.ref hs, .long r_41.op, r_41.vA, r_41.vL])), (hs, .inr (5, fs)), (hf, .inl (k 1, 36, .inl f)), (hg, .inl (k 1, 32, .inl g))]) (pre' := [(hL, .inr (1, [.ref hw1, .ref h, .ref hn1, .ref ro, .int (iZ dr), .int (iZ st), .int (iZ mi), .int (iZ we), .int (iZ tu), .int (iZ o0), .int (iZ le)])), (hw1, .inr (8, [.ref hs, .ref hc, .ref hy])), (hc, .inr (0, [.ref cw, .ref cg, .ref cs, .ref ck, .int (iZ wk), .int (iZ od)])), (cw, .inl (k 1, 401, .inl wf)), (h, .inr (3, [.ref hs, .long r_41.op, r_41.vA, r_41.vL])), (hs, .inr (5, fs)), (hf, .inl (k 1, 36, .inl f)), (hg, .inl (k 1, 32, .inl g))]) (tl := r_41.tl) hP [0, 1, 2, 3, 4, 5, 6, 7] rfl) (va_D.subT (pre := [(hL, .inr (1, [.ref hw1, .ref h, .ref hn1, .ref ro, .int (iZ dr), .int (iZ st), .int (iZ mi), .int (iZ we), .int (iZ tu), .int (iZ o0), .int (iZ le)])), (hw1, .inr (8, [.ref hs, .ref hc, .ref hy])), (hc, .inr (0, [.ref cw, .ref cg, .ref cs, .ref ck, .int (iZ wk), .int (iZ od)])), (cw, .inl (k 1, 401, .inl wf)), (h, .inr (3, [.ref hs, .long r_41.op, r_41.vA, r_41.vL])), (hs, .inr (5, fs)), (hf, .inl (k 1, 36, .inl f)), (hg, .inl (k 1, 32, .inl g))]) (pre' := [(hL, .inr (1, [.ref hw1, .ref h, .ref hn1, .ref ro, .int (iZ dr), .int (iZ st), .int (iZ mi), .int (iZ we), .int (iZ tu), .int (iZ o0), .int (iZ le)])), (hw1, .inr (8, [.ref hs, .ref hc, .ref hy])), (hc, .inr (0, [.ref cw, .ref cg, .ref cs, .ref ck, .int (iZ wk), .int (iZ od)])), (cw, .inl (k 1, 401, .inl wf)), (h, .inr (3, [.ref hs, .long r_41.op, r_41.vA, r_41.vL])), (hs, .inr (5, fs)), (hf, .inl (k 1, 36, .inl f)), (hg, .inl (k 1, 32, .inl g))]) (tl := r_41.tl) hD [0, 1, 2, 3, 4, 5, 6, 7] rfl rfl) hS (lv_sub hl [0, 1, 4, 5, 6] rfl)
            ·
              have c_3 := mt (zle (x := iZ n) (y := iZ v6_41) rfl rfl ⟨by omega, by omega⟩ ⟨by omega, by omega⟩).mpr c_3
              refine lv_iload hx hb dX1_wornNext_56 (lv_at hl 0 rfl) ?_
              refine lv_iload hx hb dX1_wornNext_58 (lv_at hl 2 rfl) ?_
              refine lv_icmp_ne (tgt := 67) hx hb dX1_wornNext_60 rfl (fun c_24 => ?_) (fun c_24 => ?_)
              ·
                have c_24 := mt (zeq (x := iZ v6_41) (y := iZ v4_20) rfl rfl ⟨by omega, by omega⟩ ⟨by omega, by omega⟩).mpr c_24
                refine lv_aload_n hx hb dX1_wornNext_67 rfl (lv_at hl 6 rfl) ?_
                refine va_get (D := D) (ci := 1) (v := .ref h) (C := RX1) (T := TX1) (N := 11) hx hb hts iX1 hown hK hP 0 rfl rfl 1 (bl rfl) (hts _ qf_X1_21) (fun _ h => h) rfl dX1_wornNext_68 ?_
                refine lv_iload hx hb dX1_wornNext_71 (lv_at hl 2 rfl) ?_
                refine lv_iload hx hb dX1_wornNext_73 (lv_at hl 0 rfl) ?_
                refine lv_iload_n hx hb dX1_wornNext_75 rfl (lv_at hl 4 rfl) ?_
                refine CXV (r := r_41) (b0 := r0.b) (As := [.int (iZ v4_20), .int (iZ v6_41), .int (iZ (wk + 1))]) (rest := []) (ws := [(hL, .inr (1, [.ref hw1, .ref h, .ref hn1, .ref ro, .int (iZ dr), .int (iZ st), .int (iZ mi), .int (iZ we), .int (iZ tu), .int (iZ o0), .int (iZ le)])), (hw1, .inr (8, [.ref hs, .ref hc, .ref hy])), (hc, .inr (0, [.ref cw, .ref cg, .ref cs, .ref ck, .int (iZ wk), .int (iZ od)])), (cw, .inl (k 1, 401, .inl wf)), (h, .inr (3, [.ref hs, .long r_41.op, r_41.vA, r_41.vL])), (hs, .inr (5, fs)), (hf, .inl (k 1, 36, .inl f)), (hg, .inl (k 1, 32, .inl g))]) (wc := _) (wr := [(hL, .inr (1, [.ref hw1, .ref h, .ref hn1, .ref ro, .int (iZ dr), .int (iZ st), .int (iZ mi), .int (iZ we), .int (iZ tu), .int (iZ o0), .int (iZ le)])), (hw1, .inr (8, [.ref hs, .ref hc, .ref hy])), (hc, .inr (0, [.ref cw, .ref cg, .ref cs, .ref ck, .int (iZ wk), .int (iZ od)])), (cw, .inl (k 1, 401, .inl wf))]) hx hb hml hown hts hKK hP hD hS hA hbr_41 (k_seen l D k h hs r_41 rtr_41 fs hf hg f1 f2 f g n hn hx0 ni f4 hni rfl v4_20 v6_41 (wk + 1) ⟨by omega, by omega⟩ ⟨by omega, by omega⟩ ⟨by omega, by omega⟩) ci_X3_seen qm_X1_57 ⟨Nat.le_of_ble_eq_true rfl, Nat.le_of_ble_eq_true rfl⟩ ⟨rfl, rfl⟩ [4, 5, 6, 7] [0, 1, 2, 3] rfl rfl rfl rfl rfl (dj rfl) 0 rfl rfl rfl hl.1 rfl (Nat.le_of_ble_eq_true rfl) dX1_wornNext_76 (fun u_25 H locs hφ hP hD hS hb1 => ?_)
                obtain ⟨z_27, r_28⟩ := u_25
                obtain ⟨hz_27, rtr_28⟩ := hφ
                dsimp only at hz_27
                obtain ⟨hz_27, vz_27, mor_28⟩ := hz_27
                have rtr_28 : RT k (RX f g n ni) r_28 := rtr_28
                have hbh_26 : r_28.b = true → r0.b = true := fun h => hbr_41 (hb1 h)
                refine W.ceq (cells' := cz r0.b r_28.b) (slots' := sz r0.b r_28.b) rfl rfl ?_
                refine W.eq (g2 := F0 m 79 ls [.int (iZ z_27)]) rfl ?_
                refine lv_istore (lv' := [(7, .int (iZ z_27)), (6, .int (iZ v6_41)), (5, .int (iZ v5_41)), (4, .int (iZ v4_20)), (3, .int (iZ v3_20)), (2, .int (iZ (wk + 1))), (1, .ref hc), (0, .ref hL)]) hx hb dX1_wornNext_79 hl (bl rfl) rfl (fun ls hl => ?_)
                refine lv_iload hx hb dX1_wornNext_81 (lv_at hl 0 rfl) ?_
                refine lv_iconst (v := iZ (-1)) hx hb dX1_wornNext_83 rfl ?_
                refine lv_icmp_eq (tgt := 109) hx hb dX1_wornNext_84 rfl (fun c_29 => ?_) (fun c_29 => ?_)
                ·
                  have c_29 := (zeq (x := iZ z_27) (y := iZ (-1)) rfl rfl ⟨by omega, by omega⟩ wn_m1).mp c_29
                  refine lv_iinc (v := iZ (v6_41 + 1)) (lv' := [(6, .int (iZ (v6_41 + 1))), (7, .int (iZ z_27)), (5, .int (iZ v5_41)), (4, .int (iZ v4_20)), (3, .int (iZ v3_20)), (2, .int (iZ (wk + 1))), (1, .ref hc), (0, .ref hL)]) hx hb dX1_wornNext_109 hl (k := 1) rfl (iZ_add v6_41 1) (by decide) rfl (fun ls hl => ?_)
                  refine lv_goto (tgt := 41) hx hb dX1_wornNext_112 rfl ?_
                  exact ih41  r_28 v5_41 (v6_41 + 1) _ _ _ (by omega) rtr_28 hbh_26 (show (0 ≤ (v6_41 + 1) ∧ (v6_41 + 1) ≤ (n - 1) + 1) from ⟨by omega, by omega⟩) (show -(v6_41 + 1) ≤ v5_41 ∧ v5_41 ≤ (v6_41 + 1) from (by omega)) (show v5_41 = mrF (eC f g n ni lw) wk (cut (wk + 1) (gz wf)) v4_20 (Int.toNat ((v6_41 + 1))) from (by have m9 := cmr (wk := wk) (g := g) (ni := ni) (lw := lw) (wf := wf) (r := v4_20) (i := v6_41) hx0 ⟨by omega, by omega⟩ ⟨by omega, by omega⟩ ⟨by omega, by omega⟩; have v9 := vz_27.1 ⟨by omega, by omega⟩; omega)) (va_P.subT (pre := [(hL, .inr (1, [.ref hw1, .ref h, .ref hn1, .ref ro, .int (iZ dr), .int (iZ st), .int (iZ mi), .int (iZ we), .int (iZ tu), .int (iZ o0), .int (iZ le)])), (hw1, .inr (8, [.ref hs, .ref hc, .ref hy])), (hc, .inr (0, [.ref cw, .ref cg, .ref cs, .ref ck, .int (iZ wk), .int (iZ od)])), (cw, .inl (k 1, 401, .inl wf)), (h, .inr (3, [.ref hs, .long r_28.op, r_28.vA, r_28.vL])), (hs, .inr (5, fs)), (hf, .inl (k 1, 36, .inl f)), (hg, .inl (k 1, 32, .inl g))]) (pre' := [(hL, .inr (1, [.ref hw1, .ref h, .ref hn1, .ref ro, .int (iZ dr), .int (iZ st), .int (iZ mi), .int (iZ we), .int (iZ tu), .int (iZ o0), .int (iZ le)])), (hw1, .inr (8, [.ref hs, .ref hc, .ref hy])), (hc, .inr (0, [.ref cw, .ref cg, .ref cs, .ref ck, .int (iZ wk), .int (iZ od)])), (cw, .inl (k 1, 401, .inl wf)), (h, .inr (3, [.ref hs, .long r_28.op, r_28.vA, r_28.vL])), (hs, .inr (5, fs)), (hf, .inl (k 1, 36, .inl f)), (hg, .inl (k 1, 32, .inl g))]) (tl := r_28.tl) hP [0, 1, 2, 3, 4, 5, 6, 7] rfl) (va_D.subT (pre := [(hL, .inr (1, [.ref hw1, .ref h, .ref hn1, .ref ro, .int (iZ dr), .int (iZ st), .int (iZ mi), .int (iZ we), .int (iZ tu), .int (iZ o0), .int (iZ le)])), (hw1, .inr (8, [.ref hs, .ref hc, .ref hy])), (hc, .inr (0, [.ref cw, .ref cg, .ref cs, .ref ck, .int (iZ wk), .int (iZ od)])), (cw, .inl (k 1, 401, .inl wf)), (h, .inr (3, [.ref hs, .long r_28.op, r_28.vA, r_28.vL])), (hs, .inr (5, fs)), (hf, .inl (k 1, 36, .inl f)), (hg, .inl (k 1, 32, .inl g))]) (pre' := [(hL, .inr (1, [.ref hw1, .ref h, .ref hn1, .ref ro, .int (iZ dr), .int (iZ st), .int (iZ mi), .int (iZ we), .int (iZ tu), .int (iZ o0), .int (iZ le)])), (hw1, .inr (8, [.ref hs, .ref hc, .ref hy])), (hc, .inr (0, [.ref cw, .ref cg, .ref cs, .ref ck, .int (iZ wk), .int (iZ od)])), (cw, .inl (k 1, 401, .inl wf)), (h, .inr (3, [.ref hs, .long r_28.op, r_28.vA, r_28.vL])), (hs, .inr (5, fs)), (hf, .inl (k 1, 36, .inl f)), (hg, .inl (k 1, 32, .inl g))]) (tl := r_28.tl) hD [0, 1, 2, 3, 4, 5, 6, 7] rfl rfl) hS (lv_sub hl [0, 2, 3, 4, 5, 6, 7] rfl)
                ·
                  have c_29 := mt (zeq (x := iZ z_27) (y := iZ (-1)) rfl rfl ⟨by omega, by omega⟩ wn_m1).mpr c_29
                  refine lv_iload hx hb dX1_wornNext_87 (lv_at hl 2 rfl) ?_
                  refine lv_aload_n hx hb dX1_wornNext_89 rfl (lv_at hl 6 rfl) ?_
                  refine lv_iload hx hb dX1_wornNext_90 (lv_at hl 1 rfl) ?_
                  refine lv_iload hx hb dX1_wornNext_92 (lv_at hl 0 rfl) ?_
                  refine CPV (As := [.int (iZ v6_41), .int (iZ z_27)]) (rest := [.int (iZ v5_41)]) hx hb hml hown hts hKK (hP.sub (ws' := [(hc, .inr (0, [.ref cw, .ref cg, .ref cs, .ref ck, .int (iZ wk), .int (iZ od)])), (cw, .inl (k 1, 401, .inl wf))]) [2, 3] rfl) (k_wornIn l D k hc cw [.ref cw, .ref cg, .ref cs, .ref ck, .int (iZ wk), .int (iZ od)] rfl wf v6_41 z_27 ⟨by omega, by omega⟩) ci_X0_wornIn qm_X1_63 ⟨Nat.le_of_ble_eq_true rfl, Nat.le_of_ble_eq_true rfl⟩ ⟨cz_le _ _, sz_le _ _⟩ 0 rfl rfl rfl hl.1 rfl (Nat.le_of_ble_eq_true rfl) dX1_wornNext_94 (fun z_30 hz_30 => ?_)
                  have hbz_30 := hz_30.2
                  refine lv_iconst (v := iZ 1) hx hb dX1_wornNext_97 rfl ?_
                  refine lv_icmp_ne (tgt := 105) hx hb dX1_wornNext_98 rfl (fun c_31 => ?_) (fun c_31 => ?_)
                  ·
                    have c_31 := mt (zeq (x := iZ z_30) (y := iZ 1) rfl rfl ⟨by omega, by omega⟩ wn_1).mpr c_31
                    refine lv_iconst (v := iZ (-1)) hx hb dX1_wornNext_105 rfl ?_
                    refine lv_iadd hx hb dX1_wornNext_106 ?_
                    refine lv_topi (fun x_32 ex_32 => ?_)
                    obtain rfl : x_32 = iZ (v5_41 + (-1)) := ex_32.trans (iZ_add v5_41 (-1))
                    refine lv_istore (lv' := [(5, .int (iZ (v5_41 + (-1)))), (7, .int (iZ z_27)), (6, .int (iZ v6_41)), (4, .int (iZ v4_20)), (3, .int (iZ v3_20)), (2, .int (iZ (wk + 1))), (1, .ref hc), (0, .ref hL)]) hx hb dX1_wornNext_107 hl (bl rfl) rfl (fun ls hl => ?_)
                    refine lv_iinc (v := iZ (v6_41 + 1)) (lv' := [(6, .int (iZ (v6_41 + 1))), (5, .int (iZ (v5_41 + (-1)))), (7, .int (iZ z_27)), (4, .int (iZ v4_20)), (3, .int (iZ v3_20)), (2, .int (iZ (wk + 1))), (1, .ref hc), (0, .ref hL)]) hx hb dX1_wornNext_109 hl (k := 2) rfl (iZ_add v6_41 1) (by decide) rfl (fun ls hl => ?_)
                    refine lv_goto (tgt := 41) hx hb dX1_wornNext_112 rfl ?_
                    exact ih41  r_28 (v5_41 + (-1)) (v6_41 + 1) _ _ _ (by omega) rtr_28 hbh_26 (show (0 ≤ (v6_41 + 1) ∧ (v6_41 + 1) ≤ (n - 1) + 1) from ⟨by omega, by omega⟩) (show -(v6_41 + 1) ≤ (v5_41 + (-1)) ∧ (v5_41 + (-1)) ≤ (v6_41 + 1) from (by omega)) (show (v5_41 + (-1)) = mrF (eC f g n ni lw) wk (cut (wk + 1) (gz wf)) v4_20 (Int.toNat ((v6_41 + 1))) from (by have m9 := cmr (wk := wk) (g := g) (ni := ni) (lw := lw) (wf := wf) (r := v4_20) (i := v6_41) hx0 ⟨by omega, by omega⟩ ⟨by omega, by omega⟩ ⟨by omega, by omega⟩; have v9 := vz_27.1 ⟨by omega, by omega⟩; have b9 := wB_eq hz_30.1 hz_30.2; rw [v9] at b9; omega)) (va_P.subT (pre := [(hL, .inr (1, [.ref hw1, .ref h, .ref hn1, .ref ro, .int (iZ dr), .int (iZ st), .int (iZ mi), .int (iZ we), .int (iZ tu), .int (iZ o0), .int (iZ le)])), (hw1, .inr (8, [.ref hs, .ref hc, .ref hy])), (hc, .inr (0, [.ref cw, .ref cg, .ref cs, .ref ck, .int (iZ wk), .int (iZ od)])), (cw, .inl (k 1, 401, .inl wf)), (h, .inr (3, [.ref hs, .long r_28.op, r_28.vA, r_28.vL])), (hs, .inr (5, fs)), (hf, .inl (k 1, 36, .inl f)), (hg, .inl (k 1, 32, .inl g))]) (pre' := [(hL, .inr (1, [.ref hw1, .ref h, .ref hn1, .ref ro, .int (iZ dr), .int (iZ st), .int (iZ mi), .int (iZ we), .int (iZ tu), .int (iZ o0), .int (iZ le)])), (hw1, .inr (8, [.ref hs, .ref hc, .ref hy])), (hc, .inr (0, [.ref cw, .ref cg, .ref cs, .ref ck, .int (iZ wk), .int (iZ od)])), (cw, .inl (k 1, 401, .inl wf)), (h, .inr (3, [.ref hs, .long r_28.op, r_28.vA, r_28.vL])), (hs, .inr (5, fs)), (hf, .inl (k 1, 36, .inl f)), (hg, .inl (k 1, 32, .inl g))]) (tl := r_28.tl) hP [0, 1, 2, 3, 4, 5, 6, 7] rfl) (va_D.subT (pre := [(hL, .inr (1, [.ref hw1, .ref h, .ref hn1, .ref ro, .int (iZ dr), .int (iZ st), .int (iZ mi), .int (iZ we), .int (iZ tu), .int (iZ o0), .int (iZ le)])), (hw1, .inr (8, [.ref hs, .ref hc, .ref hy])), (hc, .inr (0, [.ref cw, .ref cg, .ref cs, .ref ck, .int (iZ wk), .int (iZ od)])), (cw, .inl (k 1, 401, .inl wf)), (h, .inr (3, [.ref hs, .long r_28.op, r_28.vA, r_28.vL])), (hs, .inr (5, fs)), (hf, .inl (k 1, 36, .inl f)), (hg, .inl (k 1, 32, .inl g))]) (pre' := [(hL, .inr (1, [.ref hw1, .ref h, .ref hn1, .ref ro, .int (iZ dr), .int (iZ st), .int (iZ mi), .int (iZ we), .int (iZ tu), .int (iZ o0), .int (iZ le)])), (hw1, .inr (8, [.ref hs, .ref hc, .ref hy])), (hc, .inr (0, [.ref cw, .ref cg, .ref cs, .ref ck, .int (iZ wk), .int (iZ od)])), (cw, .inl (k 1, 401, .inl wf)), (h, .inr (3, [.ref hs, .long r_28.op, r_28.vA, r_28.vL])), (hs, .inr (5, fs)), (hf, .inl (k 1, 36, .inl f)), (hg, .inl (k 1, 32, .inl g))]) (tl := r_28.tl) hD [0, 1, 2, 3, 4, 5, 6, 7] rfl rfl) hS (lv_sub hl [0, 1, 3, 4, 5, 6, 7] rfl)
                  ·
                    have c_31 := (zeq (x := iZ z_30) (y := iZ 1) rfl rfl ⟨by omega, by omega⟩ wn_1).mp c_31
                    refine lv_iconst (v := iZ 1) hx hb dX1_wornNext_101 rfl ?_
                    refine lv_goto (tgt := 106) hx hb dX1_wornNext_102 rfl ?_
                    refine lv_iadd hx hb dX1_wornNext_106 ?_
                    refine lv_topi (fun x_33 ex_33 => ?_)
                    obtain rfl : x_33 = iZ (v5_41 + 1) := ex_33.trans (iZ_add v5_41 1)
                    refine lv_istore (lv' := [(5, .int (iZ (v5_41 + 1))), (7, .int (iZ z_27)), (6, .int (iZ v6_41)), (4, .int (iZ v4_20)), (3, .int (iZ v3_20)), (2, .int (iZ (wk + 1))), (1, .ref hc), (0, .ref hL)]) hx hb dX1_wornNext_107 hl (bl rfl) rfl (fun ls hl => ?_)
                    refine lv_iinc (v := iZ (v6_41 + 1)) (lv' := [(6, .int (iZ (v6_41 + 1))), (5, .int (iZ (v5_41 + 1))), (7, .int (iZ z_27)), (4, .int (iZ v4_20)), (3, .int (iZ v3_20)), (2, .int (iZ (wk + 1))), (1, .ref hc), (0, .ref hL)]) hx hb dX1_wornNext_109 hl (k := 2) rfl (iZ_add v6_41 1) (by decide) rfl (fun ls hl => ?_)
                    refine lv_goto (tgt := 41) hx hb dX1_wornNext_112 rfl ?_
                    exact ih41  r_28 (v5_41 + 1) (v6_41 + 1) _ _ _ (by omega) rtr_28 hbh_26 (show (0 ≤ (v6_41 + 1) ∧ (v6_41 + 1) ≤ (n - 1) + 1) from ⟨by omega, by omega⟩) (show -(v6_41 + 1) ≤ (v5_41 + 1) ∧ (v5_41 + 1) ≤ (v6_41 + 1) from (by omega)) (show (v5_41 + 1) = mrF (eC f g n ni lw) wk (cut (wk + 1) (gz wf)) v4_20 (Int.toNat ((v6_41 + 1))) from (by have m9 := cmr (wk := wk) (g := g) (ni := ni) (lw := lw) (wf := wf) (r := v4_20) (i := v6_41) hx0 ⟨by omega, by omega⟩ ⟨by omega, by omega⟩ ⟨by omega, by omega⟩; have v9 := vz_27.1 ⟨by omega, by omega⟩; have b9 := wB_eq hz_30.1 hz_30.2; rw [v9] at b9; omega)) (va_P.subT (pre := [(hL, .inr (1, [.ref hw1, .ref h, .ref hn1, .ref ro, .int (iZ dr), .int (iZ st), .int (iZ mi), .int (iZ we), .int (iZ tu), .int (iZ o0), .int (iZ le)])), (hw1, .inr (8, [.ref hs, .ref hc, .ref hy])), (hc, .inr (0, [.ref cw, .ref cg, .ref cs, .ref ck, .int (iZ wk), .int (iZ od)])), (cw, .inl (k 1, 401, .inl wf)), (h, .inr (3, [.ref hs, .long r_28.op, r_28.vA, r_28.vL])), (hs, .inr (5, fs)), (hf, .inl (k 1, 36, .inl f)), (hg, .inl (k 1, 32, .inl g))]) (pre' := [(hL, .inr (1, [.ref hw1, .ref h, .ref hn1, .ref ro, .int (iZ dr), .int (iZ st), .int (iZ mi), .int (iZ we), .int (iZ tu), .int (iZ o0), .int (iZ le)])), (hw1, .inr (8, [.ref hs, .ref hc, .ref hy])), (hc, .inr (0, [.ref cw, .ref cg, .ref cs, .ref ck, .int (iZ wk), .int (iZ od)])), (cw, .inl (k 1, 401, .inl wf)), (h, .inr (3, [.ref hs, .long r_28.op, r_28.vA, r_28.vL])), (hs, .inr (5, fs)), (hf, .inl (k 1, 36, .inl f)), (hg, .inl (k 1, 32, .inl g))]) (tl := r_28.tl) hP [0, 1, 2, 3, 4, 5, 6, 7] rfl) (va_D.subT (pre := [(hL, .inr (1, [.ref hw1, .ref h, .ref hn1, .ref ro, .int (iZ dr), .int (iZ st), .int (iZ mi), .int (iZ we), .int (iZ tu), .int (iZ o0), .int (iZ le)])), (hw1, .inr (8, [.ref hs, .ref hc, .ref hy])), (hc, .inr (0, [.ref cw, .ref cg, .ref cs, .ref ck, .int (iZ wk), .int (iZ od)])), (cw, .inl (k 1, 401, .inl wf)), (h, .inr (3, [.ref hs, .long r_28.op, r_28.vA, r_28.vL])), (hs, .inr (5, fs)), (hf, .inl (k 1, 36, .inl f)), (hg, .inl (k 1, 32, .inl g))]) (pre' := [(hL, .inr (1, [.ref hw1, .ref h, .ref hn1, .ref ro, .int (iZ dr), .int (iZ st), .int (iZ mi), .int (iZ we), .int (iZ tu), .int (iZ o0), .int (iZ le)])), (hw1, .inr (8, [.ref hs, .ref hc, .ref hy])), (hc, .inr (0, [.ref cw, .ref cg, .ref cs, .ref ck, .int (iZ wk), .int (iZ od)])), (cw, .inl (k 1, 401, .inl wf)), (h, .inr (3, [.ref hs, .long r_28.op, r_28.vA, r_28.vL])), (hs, .inr (5, fs)), (hf, .inl (k 1, 36, .inl f)), (hg, .inl (k 1, 32, .inl g))]) (tl := r_28.tl) hD [0, 1, 2, 3, 4, 5, 6, 7] rfl rfl) hS (lv_sub hl [0, 1, 3, 4, 5, 6, 7] rfl)
              ·
                have c_24 := (zeq (x := iZ v6_41) (y := iZ v4_20) rfl rfl ⟨by omega, by omega⟩ ⟨by omega, by omega⟩).mp c_24
                refine lv_iconst (v := iZ (-1)) hx hb dX1_wornNext_63 rfl ?_
                refine lv_goto (tgt := 79) hx hb dX1_wornNext_64 rfl ?_
                refine lv_istore (lv' := [(7, .int (iZ (-1))), (6, .int (iZ v6_41)), (5, .int (iZ v5_41)), (4, .int (iZ v4_20)), (3, .int (iZ v3_20)), (2, .int (iZ (wk + 1))), (1, .ref hc), (0, .ref hL)]) hx hb dX1_wornNext_79 hl (bl rfl) rfl (fun ls hl => ?_)
                refine lv_iload hx hb dX1_wornNext_81 (lv_at hl 0 rfl) ?_
                refine lv_iconst (v := iZ (-1)) hx hb dX1_wornNext_83 rfl ?_
                refine lv_icmp_eq (tgt := 109) hx hb dX1_wornNext_84 rfl (fun _ => ?_) (fun c => absurd (by decide) c)
                refine lv_iinc (v := iZ (v6_41 + 1)) (lv' := [(6, .int (iZ (v6_41 + 1))), (7, .int (iZ (-1))), (5, .int (iZ v5_41)), (4, .int (iZ v4_20)), (3, .int (iZ v3_20)), (2, .int (iZ (wk + 1))), (1, .ref hc), (0, .ref hL)]) hx hb dX1_wornNext_109 hl (k := 1) rfl (iZ_add v6_41 1) (by decide) rfl (fun ls hl => ?_)
                refine lv_goto (tgt := 41) hx hb dX1_wornNext_112 rfl ?_
                exact ih41  r_41 v5_41 (v6_41 + 1) _ _ _ (by omega) rtr_41 hbr_41 (show (0 ≤ (v6_41 + 1) ∧ (v6_41 + 1) ≤ (n - 1) + 1) from ⟨by omega, by omega⟩) (show -(v6_41 + 1) ≤ v5_41 ∧ v5_41 ≤ (v6_41 + 1) from (by omega)) (show v5_41 = mrF (eC f g n ni lw) wk (cut (wk + 1) (gz wf)) v4_20 (Int.toNat ((v6_41 + 1))) from (by have m9 := cmr (wk := wk) (g := g) (ni := ni) (lw := lw) (wf := wf) (r := v4_20) (i := v6_41) hx0 ⟨by omega, by omega⟩ ⟨by omega, by omega⟩ ⟨by omega, by omega⟩; omega)) (va_P.subT (pre := [(hL, .inr (1, [.ref hw1, .ref h, .ref hn1, .ref ro, .int (iZ dr), .int (iZ st), .int (iZ mi), .int (iZ we), .int (iZ tu), .int (iZ o0), .int (iZ le)])), (hw1, .inr (8, [.ref hs, .ref hc, .ref hy])), (hc, .inr (0, [.ref cw, .ref cg, .ref cs, .ref ck, .int (iZ wk), .int (iZ od)])), (cw, .inl (k 1, 401, .inl wf)), (h, .inr (3, [.ref hs, .long r_41.op, r_41.vA, r_41.vL])), (hs, .inr (5, fs)), (hf, .inl (k 1, 36, .inl f)), (hg, .inl (k 1, 32, .inl g))]) (pre' := [(hL, .inr (1, [.ref hw1, .ref h, .ref hn1, .ref ro, .int (iZ dr), .int (iZ st), .int (iZ mi), .int (iZ we), .int (iZ tu), .int (iZ o0), .int (iZ le)])), (hw1, .inr (8, [.ref hs, .ref hc, .ref hy])), (hc, .inr (0, [.ref cw, .ref cg, .ref cs, .ref ck, .int (iZ wk), .int (iZ od)])), (cw, .inl (k 1, 401, .inl wf)), (h, .inr (3, [.ref hs, .long r_41.op, r_41.vA, r_41.vL])), (hs, .inr (5, fs)), (hf, .inl (k 1, 36, .inl f)), (hg, .inl (k 1, 32, .inl g))]) (tl := r_41.tl) hP [0, 1, 2, 3, 4, 5, 6, 7] rfl) (va_D.subT (pre := [(hL, .inr (1, [.ref hw1, .ref h, .ref hn1, .ref ro, .int (iZ dr), .int (iZ st), .int (iZ mi), .int (iZ we), .int (iZ tu), .int (iZ o0), .int (iZ le)])), (hw1, .inr (8, [.ref hs, .ref hc, .ref hy])), (hc, .inr (0, [.ref cw, .ref cg, .ref cs, .ref ck, .int (iZ wk), .int (iZ od)])), (cw, .inl (k 1, 401, .inl wf)), (h, .inr (3, [.ref hs, .long r_41.op, r_41.vA, r_41.vL])), (hs, .inr (5, fs)), (hf, .inl (k 1, 36, .inl f)), (hg, .inl (k 1, 32, .inl g))]) (pre' := [(hL, .inr (1, [.ref hw1, .ref h, .ref hn1, .ref ro, .int (iZ dr), .int (iZ st), .int (iZ mi), .int (iZ we), .int (iZ tu), .int (iZ o0), .int (iZ le)])), (hw1, .inr (8, [.ref hs, .ref hc, .ref hy])), (hc, .inr (0, [.ref cw, .ref cg, .ref cs, .ref ck, .int (iZ wk), .int (iZ od)])), (cw, .inl (k 1, 401, .inl wf)), (h, .inr (3, [.ref hs, .long r_41.op, r_41.vA, r_41.vL])), (hs, .inr (5, fs)), (hf, .inl (k 1, 36, .inl f)), (hg, .inl (k 1, 32, .inl g))]) (tl := r_41.tl) hD [0, 1, 2, 3, 4, 5, 6, 7] rfl rfl) hS (lv_sub hl [0, 2, 3, 4, 5, 6, 7] rfl)
        exact HL41 9 r_20 0 0 _ _ _ (by omega) rtr_20 hbr_20 (show (0 ≤ 0 ∧ 0 ≤ (n - 1) + 1) from ⟨by omega, by omega⟩) (show -0 ≤ 0 ∧ 0 ≤ 0 from (by omega)) (show 0 = mrF (eC f g n ni lw) wk (cut (wk + 1) (gz wf)) v4_20 (Int.toNat (0)) from rfl) (va_P.subT (pre := [(hL, .inr (1, [.ref hw1, .ref h, .ref hn1, .ref ro, .int (iZ dr), .int (iZ st), .int (iZ mi), .int (iZ we), .int (iZ tu), .int (iZ o0), .int (iZ le)])), (hw1, .inr (8, [.ref hs, .ref hc, .ref hy])), (hc, .inr (0, [.ref cw, .ref cg, .ref cs, .ref ck, .int (iZ wk), .int (iZ od)])), (cw, .inl (k 1, 401, .inl wf)), (h, .inr (3, [.ref hs, .long r_20.op, r_20.vA, r_20.vL])), (hs, .inr (5, fs)), (hf, .inl (k 1, 36, .inl f)), (hg, .inl (k 1, 32, .inl g))]) (pre' := [(hL, .inr (1, [.ref hw1, .ref h, .ref hn1, .ref ro, .int (iZ dr), .int (iZ st), .int (iZ mi), .int (iZ we), .int (iZ tu), .int (iZ o0), .int (iZ le)])), (hw1, .inr (8, [.ref hs, .ref hc, .ref hy])), (hc, .inr (0, [.ref cw, .ref cg, .ref cs, .ref ck, .int (iZ wk), .int (iZ od)])), (cw, .inl (k 1, 401, .inl wf)), (h, .inr (3, [.ref hs, .long r_20.op, r_20.vA, r_20.vL])), (hs, .inr (5, fs)), (hf, .inl (k 1, 36, .inl f)), (hg, .inl (k 1, 32, .inl g))]) (tl := r_20.tl) hP [0, 1, 2, 3, 4, 5, 6, 7] rfl) (va_D.subT (pre := [(hL, .inr (1, [.ref hw1, .ref h, .ref hn1, .ref ro, .int (iZ dr), .int (iZ st), .int (iZ mi), .int (iZ we), .int (iZ tu), .int (iZ o0), .int (iZ le)])), (hw1, .inr (8, [.ref hs, .ref hc, .ref hy])), (hc, .inr (0, [.ref cw, .ref cg, .ref cs, .ref ck, .int (iZ wk), .int (iZ od)])), (cw, .inl (k 1, 401, .inl wf)), (h, .inr (3, [.ref hs, .long r_20.op, r_20.vA, r_20.vL])), (hs, .inr (5, fs)), (hf, .inl (k 1, 36, .inl f)), (hg, .inl (k 1, 32, .inl g))]) (pre' := [(hL, .inr (1, [.ref hw1, .ref h, .ref hn1, .ref ro, .int (iZ dr), .int (iZ st), .int (iZ mi), .int (iZ we), .int (iZ tu), .int (iZ o0), .int (iZ le)])), (hw1, .inr (8, [.ref hs, .ref hc, .ref hy])), (hc, .inr (0, [.ref cw, .ref cg, .ref cs, .ref ck, .int (iZ wk), .int (iZ od)])), (cw, .inl (k 1, 401, .inl wf)), (h, .inr (3, [.ref hs, .long r_20.op, r_20.vA, r_20.vL])), (hs, .inr (5, fs)), (hf, .inl (k 1, 36, .inl f)), (hg, .inl (k 1, 32, .inl g))]) (tl := r_20.tl) hD [0, 1, 2, 3, 4, 5, 6, 7] rfl rfl) hS (lv_sub hl [0, 1, 2, 3, 4, 5, 6] rfl)
  exact HL20 9 r0 0 0 _ _ _ (by omega) hRT (fun h => h) (show (0 ≤ 0 ∧ 0 ≤ (n - 1) + 1) from ⟨by omega, by omega⟩) (show -2147483648 ≤ 0 ∧ 0 < 2147483648 from (by omega)) (show iZ 0 = bS (nxP (eC f g n ni lw) wk (cut (wk + 1) (gz wf))) (Int.toNat (0)) from sB_0) (va_P.subT (pre := [(hL, .inr (1, [.ref hw1, .ref h, .ref hn1, .ref ro, .int (iZ dr), .int (iZ st), .int (iZ mi), .int (iZ we), .int (iZ tu), .int (iZ o0), .int (iZ le)])), (hw1, .inr (8, [.ref hs, .ref hc, .ref hy])), (hc, .inr (0, [.ref cw, .ref cg, .ref cs, .ref ck, .int (iZ wk), .int (iZ od)])), (cw, .inl (k 1, 401, .inl wf)), (h, .inr (3, [.ref hs, .long r0.op, r0.vA, r0.vL])), (hs, .inr (5, fs)), (hf, .inl (k 1, 36, .inl f)), (hg, .inl (k 1, 32, .inl g))]) (pre' := [(hL, .inr (1, [.ref hw1, .ref h, .ref hn1, .ref ro, .int (iZ dr), .int (iZ st), .int (iZ mi), .int (iZ we), .int (iZ tu), .int (iZ o0), .int (iZ le)])), (hw1, .inr (8, [.ref hs, .ref hc, .ref hy])), (hc, .inr (0, [.ref cw, .ref cg, .ref cs, .ref ck, .int (iZ wk), .int (iZ od)])), (cw, .inl (k 1, 401, .inl wf)), (h, .inr (3, [.ref hs, .long r0.op, r0.vA, r0.vL])), (hs, .inr (5, fs)), (hf, .inl (k 1, 36, .inl f)), (hg, .inl (k 1, 32, .inl g))]) (tl := r0.tl) hP [0, 1, 2, 3, 4, 5, 6, 7] rfl) (va_D.subT (pre := [(hL, .inr (1, [.ref hw1, .ref h, .ref hn1, .ref ro, .int (iZ dr), .int (iZ st), .int (iZ mi), .int (iZ we), .int (iZ tu), .int (iZ o0), .int (iZ le)])), (hw1, .inr (8, [.ref hs, .ref hc, .ref hy])), (hc, .inr (0, [.ref cw, .ref cg, .ref cs, .ref ck, .int (iZ wk), .int (iZ od)])), (cw, .inl (k 1, 401, .inl wf)), (h, .inr (3, [.ref hs, .long r0.op, r0.vA, r0.vL])), (hs, .inr (5, fs)), (hf, .inl (k 1, 36, .inl f)), (hg, .inl (k 1, 32, .inl g))]) (pre' := [(hL, .inr (1, [.ref hw1, .ref h, .ref hn1, .ref ro, .int (iZ dr), .int (iZ st), .int (iZ mi), .int (iZ we), .int (iZ tu), .int (iZ o0), .int (iZ le)])), (hw1, .inr (8, [.ref hs, .ref hc, .ref hy])), (hc, .inr (0, [.ref cw, .ref cg, .ref cs, .ref ck, .int (iZ wk), .int (iZ od)])), (cw, .inl (k 1, 401, .inl wf)), (h, .inr (3, [.ref hs, .long r0.op, r0.vA, r0.vL])), (hs, .inr (5, fs)), (hf, .inl (k 1, 36, .inl f)), (hg, .inl (k 1, 32, .inl g))]) (tl := r0.tl) hD [0, 1, 2, 3, 4, 5, 6, 7] rfl rfl) hS (lv_sub hl [0, 1, 2, 3, 4] rfl)
set_option maxHeartbeats 4000000 in
set_option maxRecDepth 100000 in
theorem x_letPass (l : Launch) (D : va_G) (k : Nat → ClassId) (fs : List Value) (hL : Nat) (hw1 : Nat) (h : Nat) (hn1 : Nat) (ro : Nat) (hs : Nat) (hf : Nat) (hg : Nat) (hc : Nat) (hy : Nat) (cw : Nat) (cg : Nat) (cs : Nat) (ck : Nat) (n : Int) (ni : Int) (lw : Int) (dr : Int) (st : Int) (mi : Int) (we : Int) (tu : Int) (o0 : Int) (le : Int) (wk : Int) (od : Int) (f : Nat → Int32) (g : Nat → Int32) (wf : Nat → Int32) (a : Int) (r0 : Ry) (hRT : RT k (RX f g n ni) r0) (f1 : fs[1]? = some (.ref hf)) (f2 : fs[2]? = some (.ref hg)) (f3 : fs[3]? = some (.int (iZ n))) (f4 : fs[4]? = some (.int (iZ ni))) (f5 : fs[5]? = some (.int (iZ lw))) (hn : n ≤ 6) (hx0 : FXI f n) (hni : 0 ≤ ni ∧ ni ≤ 8) (hn0 : 0 ≤ n) (hlw : -2147483648 ≤ lw ∧ lw < 2147483648) (hwk : 0 ≤ wk ∧ wk ≤ 400) (q_a : 0 ≤ a ∧ a ≤ 1000) : XD (σ := (Ry × (Int × Int) × (Int64) × ((Nat → Int32)) × (Unit))) l yX1_letPass cX1_letPass 4 (some .int) 4 r0 D k [.ref hL, .int (iZ a)] [(hL, .inr (1, [.ref hw1, .ref h, .ref hn1, .ref ro, .int (iZ dr), .int (iZ st), .int (iZ mi), .int (iZ we), .int (iZ tu), .int (iZ o0), .int (iZ le)])), (hw1, .inr (8, [.ref hs, .ref hc, .ref hy])), (hc, .inr (0, [.ref cw, .ref cg, .ref cs, .ref ck, .int (iZ wk), .int (iZ od)])), (cw, .inl (k 1, 401, .inl wf)), (h, .inr (3, [.ref hs, .long r0.op, r0.vA, r0.vL])), (hs, .inr (5, fs)), (hf, .inl (k 1, 36, .inl f)), (hg, .inl (k 1, 32, .inl g))] (fun u => u.1) (fun u => some (.int (iZ u.2.1.1))) (fun u => ((u.2.1.2, cut (u.2.1.2 + 1) (gz u.2.2.2.1)) = psF (eC f g n ni lw) a (wk, cut (wk + 1) (gz wf))) ∧ ((wk ≤ u.2.1.2 ∧ u.2.1.2 ≤ 400) ∧ u.2.1.1 = u.2.1.2 - wk) ∧ (RT k (RX f g n ni) u.1)) (fun u => [(hL, .inr (1, [.ref hw1, .ref h, .ref hn1, .ref ro, .int (iZ dr), .int (iZ st), .int (iZ mi), .int (iZ we), .int (iZ tu), .int (iZ o0), .int (iZ le)])), (hw1, .inr (8, [.ref hs, .ref hc, .ref hy])), (hc, .inr (0, [.ref cw, .ref cg, .ref cs, .ref ck, .int (iZ u.2.1.2), .int (iZ od)])), (cw, .inl (k 1, 401, .inl u.2.2.2.1)), (h, .inr (3, [.ref hs, .long u.1.op, u.1.vA, u.1.vL])), (hs, .inr (5, fs)), (hf, .inl (k 1, 36, .inl f)), (hg, .inl (k 1, 32, .inl g))]) := by
  refine MX (by decide) (Nat.le_of_ble_eq_true rfl) (fun p e s m below meth c ls A hx hb hml hr hlocks hin hts hown hKK hP hD hS hA hl => ?_)
  have hK := hKK.1
  have hl : lv_has ls 4 [(0, .ref hL), (1, .int (iZ a))] := hl
  refine lv_aload_n hx hb dX1_letPass_0 rfl (lv_at hl 0 rfl) ?_
  refine va_get (D := D) (ci := 1) (v := .ref hw1) (C := RX1) (T := TX1) (N := 11) hx hb hts iX1 hown hK hP 0 rfl rfl 0 (bl rfl) (hts _ qf_X1_17) (fun _ h => h) rfl dX1_letPass_1 ?_
  refine va_get (D := D) (ci := 8) (v := .ref hc) (C := RX8) (T := TX8) (N := 3) hx hb hts iX8 hown hK hP 1 rfl rfl 1 (bl rfl) (hts _ qf_X1_29) (fun _ h => h) rfl dX1_letPass_4 ?_
  refine lv_astore_n (lv' := [(2, .ref hc), (0, .ref hL), (1, .int (iZ a))]) hx hb dX1_letPass_7 rfl hl (bl rfl) rfl (fun ls hl => ?_)
  refine lv_iconst (v := iZ 0) hx hb dX1_letPass_8 rfl ?_
  refine lv_istore_n (lv' := [(3, .int (iZ 0)), (2, .ref hc), (0, .ref hL), (1, .int (iZ a))]) hx hb dX1_letPass_9 rfl hl (bl rfl) rfl (fun ls hl => ?_)
  have HL10 : ∀ (fu : Nat) (r_10 : Ry) (v3_10 : Int) (wkq10 : Int) (wfq10 : Nat → Int32) (H : Heap) (locs : List Loc) (ls : Array Slot), (401 - wkq10) < (fu : Int) → RT k (RX f g n ni) r_10 → (r_10.b = true → r0.b = true) → ((0 ≤ v3_10 ∧ v3_10 ≤ (a - 1) + 1)) → (v3_10 = wkq10 - wk ∧ (wk ≤ wkq10 ∧ wkq10 ≤ 400)) → ((wkq10, cut (wkq10 + 1) (gz wfq10)) = psF (eC f g n ni lw) v3_10 (wk, cut (wk + 1) (gz wf))) → va_P D vwCl ((hL, .inr (1, [.ref hw1, .ref h, .ref hn1, .ref ro, .int (iZ dr), .int (iZ st), .int (iZ mi), .int (iZ we), .int (iZ tu), .int (iZ o0), .int (iZ le)])) :: (hw1, .inr (8, [.ref hs, .ref hc, .ref hy])) :: (hc, .inr (0, [.ref cw, .ref cg, .ref cs, .ref ck, .int (iZ wkq10), .int (iZ od)])) :: (cw, .inl (k 1, 401, .inl wfq10)) :: (h, .inr (3, [.ref hs, .long r_10.op, r_10.vA, r_10.vL])) :: (hs, .inr (5, fs)) :: (hf, .inl (k 1, 36, .inl f)) :: (hg, .inl (k 1, 32, .inl g)) :: r_10.tl) H → va_D A ((hL, .inr (1, [.ref hw1, .ref h, .ref hn1, .ref ro, .int (iZ dr), .int (iZ st), .int (iZ mi), .int (iZ we), .int (iZ tu), .int (iZ o0), .int (iZ le)])) :: (hw1, .inr (8, [.ref hs, .ref hc, .ref hy])) :: (hc, .inr (0, [.ref cw, .ref cg, .ref cs, .ref ck, .int (iZ wkq10), .int (iZ od)])) :: (cw, .inl (k 1, 401, .inl wfq10)) :: (h, .inr (3, [.ref hs, .long r_10.op, r_10.vA, r_10.vL])) :: (hs, .inr (5, fs)) :: (hf, .inl (k 1, 36, .inl f)) :: (hg, .inl (k 1, 32, .inl g)) :: r_10.tl) → va_S A s.heap H locs → lv_has ls 4 [(3, .int (iZ v3_10)), (2, .ref hc), (0, .ref hL), (1, .int (iZ a))] → W p l e (rj 4 (rcN r0.b) (rsN r0.b)) s m [.ref hL, .int (iZ a)].toArray below meth c H locs (cz r0.b r_10.b) (sz r0.b r_10.b) (MQ below (QX (σ := (Ry × (Int × Int) × (Int64) × ((Nat → Int32)) × (Unit))) r0.b (fun u => u.1) (fun u => some (.int (iZ u.2.1.1))) (fun u => ((u.2.1.2, cut (u.2.1.2 + 1) (gz u.2.2.2.1)) = psF (eC f g n ni lw) a (wk, cut (wk + 1) (gz wf))) ∧ ((wk ≤ u.2.1.2 ∧ u.2.1.2 ≤ 400) ∧ u.2.1.1 = u.2.1.2 - wk) ∧ (RT k (RX f g n ni) u.1)) (fun u => [(hL, .inr (1, [.ref hw1, .ref h, .ref hn1, .ref ro, .int (iZ dr), .int (iZ st), .int (iZ mi), .int (iZ we), .int (iZ tu), .int (iZ o0), .int (iZ le)])), (hw1, .inr (8, [.ref hs, .ref hc, .ref hy])), (hc, .inr (0, [.ref cw, .ref cg, .ref cs, .ref ck, .int (iZ u.2.1.2), .int (iZ od)])), (cw, .inl (k 1, 401, .inl u.2.2.2.1)), (h, .inr (3, [.ref hs, .long u.1.op, u.1.vA, u.1.vL])), (hs, .inr (5, fs)), (hf, .inl (k 1, 36, .inl f)), (hg, .inl (k 1, 32, .inl g))]) D A) [.ref hL, .int (iZ a)].toArray s (rcN r0.b) (rsN r0.b) A) (F0 m 10 ls []) := by
    intro fu
    induction fu with
    | zero => intro r_10 v3_10 wkq10 wfq10 H locs ls hμ10 rtr_10 hbr_10 hi10 hwq hps hP hD hS hl; exact absurd hμ10 (by omega)
    | succ fu ih10 =>
      intro r_10 v3_10 wkq10 wfq10 H locs ls hμ10 rtr_10 hbr_10 hi10 hwq hps hP hD hS hl
      refine lv_iload_n hx hb dX1_letPass_10 rfl (lv_at hl 0 rfl) ?_
      refine lv_iload_n hx hb dX1_letPass_11 rfl (lv_at hl 3 rfl) ?_
      refine lv_icmp_ge (tgt := 58) hx hb dX1_letPass_12 rfl (fun c_1 => ?_) (fun c_1 => ?_)
      ·
        have c_1 := (zle (x := iZ a) (y := iZ v3_10) rfl rfl ⟨by omega, by omega⟩ ⟨by omega, by omega⟩).mp c_1
        refine lv_iload_n hx hb dX1_letPass_58 rfl (lv_at hl 3 rfl) ?_
        exact EXi hx hb hr hlocks hbr_10 hS (r_10, (a, wkq10), 0, wfq10, ()) rfl rfl ⟨(show (wkq10, cut (wkq10 + 1) (gz wfq10)) = psF (eC f g n ni lw) a (wk, cut (wk + 1) (gz wf)) from (by have e9 : v3_10 = a := (by omega); rw [e9] at hps; exact hps)), (show (wk ≤ wkq10 ∧ wkq10 ≤ 400) ∧ a = wkq10 - wk from (by omega)), rtr_10⟩ (va_P.subT (pre := [(hL, .inr (1, [.ref hw1, .ref h, .ref hn1, .ref ro, .int (iZ dr), .int (iZ st), .int (iZ mi), .int (iZ we), .int (iZ tu), .int (iZ o0), .int (iZ le)])), (hw1, .inr (8, [.ref hs, .ref hc, .ref hy])), (hc, .inr (0, [.ref cw, .ref cg, .ref cs, .ref ck, .int (iZ wkq10), .int (iZ od)])), (cw, .inl (k 1, 401, .inl wfq10)), (h, .inr (3, [.ref hs, .long r_10.op, r_10.vA, r_10.vL])), (hs, .inr (5, fs)), (hf, .inl (k 1, 36, .inl f)), (hg, .inl (k 1, 32, .inl g))]) (pre' := [(hL, .inr (1, [.ref hw1, .ref h, .ref hn1, .ref ro, .int (iZ dr), .int (iZ st), .int (iZ mi), .int (iZ we), .int (iZ tu), .int (iZ o0), .int (iZ le)])), (hw1, .inr (8, [.ref hs, .ref hc, .ref hy])), (hc, .inr (0, [.ref cw, .ref cg, .ref cs, .ref ck, .int (iZ wkq10), .int (iZ od)])), (cw, .inl (k 1, 401, .inl wfq10)), (h, .inr (3, [.ref hs, .long r_10.op, r_10.vA, r_10.vL])), (hs, .inr (5, fs)), (hf, .inl (k 1, 36, .inl f)), (hg, .inl (k 1, 32, .inl g))]) (tl := r_10.tl) hP [0, 1, 2, 3, 4, 5, 6, 7] rfl) (va_D.subT (pre := [(hL, .inr (1, [.ref hw1, .ref h, .ref hn1, .ref ro, .int (iZ dr), .int (iZ st), .int (iZ mi), .int (iZ we), .int (iZ tu), .int (iZ o0), .int (iZ le)])), (hw1, .inr (8, [.ref hs, .ref hc, .ref hy])), (hc, .inr (0, [.ref cw, .ref cg, .ref cs, .ref ck, .int (iZ wkq10), .int (iZ od)])), (cw, .inl (k 1, 401, .inl wfq10)), (h, .inr (3, [.ref hs, .long r_10.op, r_10.vA, r_10.vL])), (hs, .inr (5, fs)), (hf, .inl (k 1, 36, .inl f)), (hg, .inl (k 1, 32, .inl g))]) (pre' := [(hL, .inr (1, [.ref hw1, .ref h, .ref hn1, .ref ro, .int (iZ dr), .int (iZ st), .int (iZ mi), .int (iZ we), .int (iZ tu), .int (iZ o0), .int (iZ le)])), (hw1, .inr (8, [.ref hs, .ref hc, .ref hy])), (hc, .inr (0, [.ref cw, .ref cg, .ref cs, .ref ck, .int (iZ wkq10), .int (iZ od)])), (cw, .inl (k 1, 401, .inl wfq10)), (h, .inr (3, [.ref hs, .long r_10.op, r_10.vA, r_10.vL])), (hs, .inr (5, fs)), (hf, .inl (k 1, 36, .inl f)), (hg, .inl (k 1, 32, .inl g))]) (tl := r_10.tl) hD [0, 1, 2, 3, 4, 5, 6, 7] rfl rfl) dX1_letPass_59
      ·
        have c_1 := mt (zle (x := iZ a) (y := iZ v3_10) rfl rfl ⟨by omega, by omega⟩ ⟨by omega, by omega⟩).mpr c_1
        refine lv_aload_n hx hb dX1_letPass_15 rfl (lv_at hl 1 rfl) ?_
        refine va_get (D := D) (ci := 0) (v := .int (iZ wkq10)) (C := RX0) (T := TX0) (N := 6) hx hb hts iX0 hown hK hP 2 rfl rfl 4 (bl rfl) (hts _ qf_X1_35) (fun _ h => h) rfl dX1_letPass_16 ?_
        refine lv_sipush (v := iZ 400) hx hb dX1_letPass_19 sip_400 ?_
        refine lv_icmp_lt (tgt := 27) hx hb dX1_letPass_22 rfl (fun c_2 => ?_) (fun c_2 => ?_)
        ·
          have c_2 := (zlt (x := iZ wkq10) (y := iZ 400) rfl rfl ⟨by omega, by omega⟩ wn_400).mp c_2
          refine lv_aload_n hx hb dX1_letPass_27 rfl (lv_at hl 1 rfl) ?_
          refine va_get (D := D) (ci := 0) (v := .ref cw) (C := RX0) (T := TX0) (N := 6) hx hb hts iX0 hown hK hP 2 rfl rfl 0 (bl rfl) (hts _ qf_X1_41) (fun _ h => h) rfl dX1_letPass_28 ?_
          refine lv_aload_n hx hb dX1_letPass_31 rfl (lv_at hl 1 rfl) ?_
          refine va_get (D := D) (ci := 0) (v := .int (iZ wkq10)) (C := RX0) (T := TX0) (N := 6) hx hb hts iX0 hown hK hP 2 rfl rfl 4 (bl rfl) (hts _ qf_X1_35) (fun _ h => h) rfl dX1_letPass_32 ?_
          refine lv_iconst (v := iZ 1) hx hb dX1_letPass_35 rfl ?_
          refine lv_iadd hx hb dX1_letPass_36 ?_
          refine lv_topi (fun x_3 ex_3 => ?_)
          obtain rfl : x_3 = iZ (wkq10 + 1) := ex_3.trans (iZ_add wkq10 1)
          refine lv_aload_n hx hb dX1_letPass_37 rfl (lv_at hl 2 rfl) ?_
          refine CXV (r := r_10) (b0 := r0.b) (As := []) (rest := [.int (iZ (wkq10 + 1)), .ref cw]) (ws := [(hL, .inr (1, [.ref hw1, .ref h, .ref hn1, .ref ro, .int (iZ dr), .int (iZ st), .int (iZ mi), .int (iZ we), .int (iZ tu), .int (iZ o0), .int (iZ le)])), (hw1, .inr (8, [.ref hs, .ref hc, .ref hy])), (hc, .inr (0, [.ref cw, .ref cg, .ref cs, .ref ck, .int (iZ wkq10), .int (iZ od)])), (cw, .inl (k 1, 401, .inl wfq10)), (h, .inr (3, [.ref hs, .long r_10.op, r_10.vA, r_10.vL])), (hs, .inr (5, fs)), (hf, .inl (k 1, 36, .inl f)), (hg, .inl (k 1, 32, .inl g))]) (wc := _) (wr := []) hx hb hml hown hts hKK hP hD hS hA hbr_10 (x_wornNext l D k fs hL hw1 h hn1 ro hs hf hg hc hy cw cg cs ck n ni lw dr st mi we tu o0 le wkq10 od f g wfq10 r_10 rtr_10 f1 f2 f3 f4 f5 (by omega) hx0 ⟨by omega, by omega⟩ (by omega) ⟨by omega, by omega⟩ ⟨by omega, by omega⟩) ci_X1_wornNext qm_X1_44 ⟨Nat.le_of_ble_eq_true rfl, Nat.le_of_ble_eq_true rfl⟩ ⟨rfl, rfl⟩ [0, 1, 2, 3, 4, 5, 6, 7] [] rfl rfl rfl rfl rfl (dj rfl) 0 rfl rfl rfl hl.1 rfl (Nat.le_of_ble_eq_true rfl) dX1_letPass_38 (fun u_4 H locs hφ hP hD hS hb1 => ?_)
          obtain ⟨r_6, v_7⟩ := u_4
          obtain ⟨p_8, p_9, rtr_6⟩ : (v_7.1 = nxV (eC f g n ni lw) wkq10 (cut (wkq10 + 1) (gz wfq10))) ∧ (-2147483648 ≤ v_7.1 ∧ v_7.1 < 2147483648) ∧ ((RT k) (RX f g n ni) r_6) := hφ
          have hbh_5 : r_6.b = true → r0.b = true := fun h => hbr_10 (hb1 h)
          refine W.ceq (cells' := cz r0.b r_6.b) (slots' := sz r0.b r_6.b) rfl rfl ?_
          refine W.eq (g2 := F0 m 41 ls [.int (iZ v_7.1), .int (iZ (wkq10 + 1)), .ref cw]) rfl ?_
          refine va_iast hx hb hK hP hD hS 3 1 rfl rfl (zin (e := (wkq10 + 1)) (n := 401) ⟨by omega, by omega⟩ (bl rfl)) dX1_letPass_41 (fun H locs hP hD hS => ?_)
          obtain ⟨f_10, hf_10⟩ : ∃ gg9, gg9 = upd wfq10 (iZ (wkq10 + 1)).toNatClampNeg (iZ v_7.1) := ⟨_, rfl⟩
          rw [← hf_10] at hP hD
          refine lv_aload_n hx hb dX1_letPass_42 rfl (lv_at hl 1 rfl) ?_
          refine lv_dup hx hb dX1_letPass_43 rfl ?_
          refine va_get (D := D) (ci := 0) (v := .int (iZ wkq10)) (C := RX0) (T := TX0) (N := 6) hx hb hts iX0 hown hK hP 2 rfl rfl 4 (bl rfl) (hts _ qf_X1_35) (fun _ h => h) rfl dX1_letPass_44 ?_
          refine lv_iconst (v := iZ 1) hx hb dX1_letPass_47 rfl ?_
          refine lv_iadd hx hb dX1_letPass_48 ?_
          refine lv_topi (fun x_11 ex_11 => ?_)
          obtain rfl : x_11 = iZ (wkq10 + 1) := ex_11.trans (iZ_add wkq10 1)
          refine va_put (D := D) (ci := 0) (v := .int (iZ (wkq10 + 1))) (ty := .int) (C := RX0) (T := TX0) (N := 6) hx hb hts iX0 tyX0 tyX0_ok nmX0 hown hK hP hD hS 2 rfl rfl 4 (bl rfl) (hts _ qf_X1_35) (fun _ h => h) rfl (by decide +kernel) rfl rfl (Nat.le_of_ble_eq_true rfl) dX1_letPass_49 (fun H locs hP hD hS => ?_)
          refine lv_iinc (v := iZ (v3_10 + 1)) (lv' := [(3, .int (iZ (v3_10 + 1))), (2, .ref hc), (0, .ref hL), (1, .int (iZ a))]) hx hb dX1_letPass_52 hl (k := 0) rfl (iZ_add v3_10 1) (by decide) rfl (fun ls hl => ?_)
          refine lv_goto (tgt := 10) hx hb dX1_letPass_55 rfl ?_
          exact ih10  r_6 (v3_10 + 1) (wkq10 + 1) f_10 _ _ _ (by omega) rtr_6 hbh_5 (show (0 ≤ (v3_10 + 1) ∧ (v3_10 + 1) ≤ (a - 1) + 1) from ⟨by omega, by omega⟩) (show (v3_10 + 1) = (wkq10 + 1) - wk ∧ (wk ≤ (wkq10 + 1) ∧ (wkq10 + 1) ≤ 400) from ⟨by omega, by omega, by omega⟩) (show ((wkq10 + 1), cut ((wkq10 + 1) + 1) (gz f_10)) = psF (eC f g n ni lw) (v3_10 + 1) (wk, cut (wk + 1) (gz wf)) from (ps_step hps (by omega) ⟨by omega, by omega⟩ p_8 hf_10 ⟨by omega, by omega⟩)) (va_P.subT (pre := [(hL, .inr (1, [.ref hw1, .ref h, .ref hn1, .ref ro, .int (iZ dr), .int (iZ st), .int (iZ mi), .int (iZ we), .int (iZ tu), .int (iZ o0), .int (iZ le)])), (hw1, .inr (8, [.ref hs, .ref hc, .ref hy])), (hc, .inr (0, [.ref cw, .ref cg, .ref cs, .ref ck, .int (iZ (wkq10 + 1)), .int (iZ od)])), (cw, .inl (k 1, 401, .inl f_10)), (h, .inr (3, [.ref hs, .long r_6.op, r_6.vA, r_6.vL])), (hs, .inr (5, fs)), (hf, .inl (k 1, 36, .inl f)), (hg, .inl (k 1, 32, .inl g))]) (pre' := [(hL, .inr (1, [.ref hw1, .ref h, .ref hn1, .ref ro, .int (iZ dr), .int (iZ st), .int (iZ mi), .int (iZ we), .int (iZ tu), .int (iZ o0), .int (iZ le)])), (hw1, .inr (8, [.ref hs, .ref hc, .ref hy])), (hc, .inr (0, [.ref cw, .ref cg, .ref cs, .ref ck, .int (iZ (wkq10 + 1)), .int (iZ od)])), (cw, .inl (k 1, 401, .inl f_10)), (h, .inr (3, [.ref hs, .long r_6.op, r_6.vA, r_6.vL])), (hs, .inr (5, fs)), (hf, .inl (k 1, 36, .inl f)), (hg, .inl (k 1, 32, .inl g))]) (tl := r_6.tl) hP [0, 1, 2, 3, 4, 5, 6, 7] rfl) (va_D.subT (pre := [(hL, .inr (1, [.ref hw1, .ref h, .ref hn1, .ref ro, .int (iZ dr), .int (iZ st), .int (iZ mi), .int (iZ we), .int (iZ tu), .int (iZ o0), .int (iZ le)])), (hw1, .inr (8, [.ref hs, .ref hc, .ref hy])), (hc, .inr (0, [.ref cw, .ref cg, .ref cs, .ref ck, .int (iZ (wkq10 + 1)), .int (iZ od)])), (cw, .inl (k 1, 401, .inl f_10)), (h, .inr (3, [.ref hs, .long r_6.op, r_6.vA, r_6.vL])), (hs, .inr (5, fs)), (hf, .inl (k 1, 36, .inl f)), (hg, .inl (k 1, 32, .inl g))]) (pre' := [(hL, .inr (1, [.ref hw1, .ref h, .ref hn1, .ref ro, .int (iZ dr), .int (iZ st), .int (iZ mi), .int (iZ we), .int (iZ tu), .int (iZ o0), .int (iZ le)])), (hw1, .inr (8, [.ref hs, .ref hc, .ref hy])), (hc, .inr (0, [.ref cw, .ref cg, .ref cs, .ref ck, .int (iZ (wkq10 + 1)), .int (iZ od)])), (cw, .inl (k 1, 401, .inl f_10)), (h, .inr (3, [.ref hs, .long r_6.op, r_6.vA, r_6.vL])), (hs, .inr (5, fs)), (hf, .inl (k 1, 36, .inl f)), (hg, .inl (k 1, 32, .inl g))]) (tl := r_6.tl) hD [0, 1, 2, 3, 4, 5, 6, 7] rfl rfl) hS (lv_sub hl [0, 1, 2, 3] rfl)
        ·
          have c_2 := mt (zlt (x := iZ wkq10) (y := iZ 400) rfl rfl ⟨by omega, by omega⟩ wn_400).mpr c_2
          refine lv_iload_n hx hb dX1_letPass_25 rfl (lv_at hl 0 rfl) ?_
          exact EXi hx hb hr hlocks hbr_10 hS (r_10, (v3_10, wkq10), 0, wfq10, ()) rfl rfl ⟨(show (wkq10, cut (wkq10 + 1) (gz wfq10)) = psF (eC f g n ni lw) a (wk, cut (wk + 1) (gz wf)) from (ps_top hps (by omega) ⟨by omega, by omega⟩)), (show (wk ≤ wkq10 ∧ wkq10 ≤ 400) ∧ v3_10 = wkq10 - wk from (by omega)), rtr_10⟩ (va_P.subT (pre := [(hL, .inr (1, [.ref hw1, .ref h, .ref hn1, .ref ro, .int (iZ dr), .int (iZ st), .int (iZ mi), .int (iZ we), .int (iZ tu), .int (iZ o0), .int (iZ le)])), (hw1, .inr (8, [.ref hs, .ref hc, .ref hy])), (hc, .inr (0, [.ref cw, .ref cg, .ref cs, .ref ck, .int (iZ wkq10), .int (iZ od)])), (cw, .inl (k 1, 401, .inl wfq10)), (h, .inr (3, [.ref hs, .long r_10.op, r_10.vA, r_10.vL])), (hs, .inr (5, fs)), (hf, .inl (k 1, 36, .inl f)), (hg, .inl (k 1, 32, .inl g))]) (pre' := [(hL, .inr (1, [.ref hw1, .ref h, .ref hn1, .ref ro, .int (iZ dr), .int (iZ st), .int (iZ mi), .int (iZ we), .int (iZ tu), .int (iZ o0), .int (iZ le)])), (hw1, .inr (8, [.ref hs, .ref hc, .ref hy])), (hc, .inr (0, [.ref cw, .ref cg, .ref cs, .ref ck, .int (iZ wkq10), .int (iZ od)])), (cw, .inl (k 1, 401, .inl wfq10)), (h, .inr (3, [.ref hs, .long r_10.op, r_10.vA, r_10.vL])), (hs, .inr (5, fs)), (hf, .inl (k 1, 36, .inl f)), (hg, .inl (k 1, 32, .inl g))]) (tl := r_10.tl) hP [0, 1, 2, 3, 4, 5, 6, 7] rfl) (va_D.subT (pre := [(hL, .inr (1, [.ref hw1, .ref h, .ref hn1, .ref ro, .int (iZ dr), .int (iZ st), .int (iZ mi), .int (iZ we), .int (iZ tu), .int (iZ o0), .int (iZ le)])), (hw1, .inr (8, [.ref hs, .ref hc, .ref hy])), (hc, .inr (0, [.ref cw, .ref cg, .ref cs, .ref ck, .int (iZ wkq10), .int (iZ od)])), (cw, .inl (k 1, 401, .inl wfq10)), (h, .inr (3, [.ref hs, .long r_10.op, r_10.vA, r_10.vL])), (hs, .inr (5, fs)), (hf, .inl (k 1, 36, .inl f)), (hg, .inl (k 1, 32, .inl g))]) (pre' := [(hL, .inr (1, [.ref hw1, .ref h, .ref hn1, .ref ro, .int (iZ dr), .int (iZ st), .int (iZ mi), .int (iZ we), .int (iZ tu), .int (iZ o0), .int (iZ le)])), (hw1, .inr (8, [.ref hs, .ref hc, .ref hy])), (hc, .inr (0, [.ref cw, .ref cg, .ref cs, .ref ck, .int (iZ wkq10), .int (iZ od)])), (cw, .inl (k 1, 401, .inl wfq10)), (h, .inr (3, [.ref hs, .long r_10.op, r_10.vA, r_10.vL])), (hs, .inr (5, fs)), (hf, .inl (k 1, 36, .inl f)), (hg, .inl (k 1, 32, .inl g))]) (tl := r_10.tl) hD [0, 1, 2, 3, 4, 5, 6, 7] rfl rfl) dX1_letPass_26
  exact HL10 402 r0 0 wk wf _ _ _ (by omega) hRT (fun h => h) (show (0 ≤ 0 ∧ 0 ≤ (a - 1) + 1) from ⟨by omega, by omega⟩) (show 0 = wk - wk ∧ (wk ≤ wk ∧ wk ≤ 400) from ⟨by omega, by omega, by omega⟩) (show (wk, cut (wk + 1) (gz wf)) = psF (eC f g n ni lw) 0 (wk, cut (wk + 1) (gz wf)) from rfl) (va_P.subT (pre := [(hL, .inr (1, [.ref hw1, .ref h, .ref hn1, .ref ro, .int (iZ dr), .int (iZ st), .int (iZ mi), .int (iZ we), .int (iZ tu), .int (iZ o0), .int (iZ le)])), (hw1, .inr (8, [.ref hs, .ref hc, .ref hy])), (hc, .inr (0, [.ref cw, .ref cg, .ref cs, .ref ck, .int (iZ wk), .int (iZ od)])), (cw, .inl (k 1, 401, .inl wf)), (h, .inr (3, [.ref hs, .long r0.op, r0.vA, r0.vL])), (hs, .inr (5, fs)), (hf, .inl (k 1, 36, .inl f)), (hg, .inl (k 1, 32, .inl g))]) (pre' := [(hL, .inr (1, [.ref hw1, .ref h, .ref hn1, .ref ro, .int (iZ dr), .int (iZ st), .int (iZ mi), .int (iZ we), .int (iZ tu), .int (iZ o0), .int (iZ le)])), (hw1, .inr (8, [.ref hs, .ref hc, .ref hy])), (hc, .inr (0, [.ref cw, .ref cg, .ref cs, .ref ck, .int (iZ wk), .int (iZ od)])), (cw, .inl (k 1, 401, .inl wf)), (h, .inr (3, [.ref hs, .long r0.op, r0.vA, r0.vL])), (hs, .inr (5, fs)), (hf, .inl (k 1, 36, .inl f)), (hg, .inl (k 1, 32, .inl g))]) (tl := r0.tl) hP [0, 1, 2, 3, 4, 5, 6, 7] rfl) (va_D.subT (pre := [(hL, .inr (1, [.ref hw1, .ref h, .ref hn1, .ref ro, .int (iZ dr), .int (iZ st), .int (iZ mi), .int (iZ we), .int (iZ tu), .int (iZ o0), .int (iZ le)])), (hw1, .inr (8, [.ref hs, .ref hc, .ref hy])), (hc, .inr (0, [.ref cw, .ref cg, .ref cs, .ref ck, .int (iZ wk), .int (iZ od)])), (cw, .inl (k 1, 401, .inl wf)), (h, .inr (3, [.ref hs, .long r0.op, r0.vA, r0.vL])), (hs, .inr (5, fs)), (hf, .inl (k 1, 36, .inl f)), (hg, .inl (k 1, 32, .inl g))]) (pre' := [(hL, .inr (1, [.ref hw1, .ref h, .ref hn1, .ref ro, .int (iZ dr), .int (iZ st), .int (iZ mi), .int (iZ we), .int (iZ tu), .int (iZ o0), .int (iZ le)])), (hw1, .inr (8, [.ref hs, .ref hc, .ref hy])), (hc, .inr (0, [.ref cw, .ref cg, .ref cs, .ref ck, .int (iZ wk), .int (iZ od)])), (cw, .inl (k 1, 401, .inl wf)), (h, .inr (3, [.ref hs, .long r0.op, r0.vA, r0.vL])), (hs, .inr (5, fs)), (hf, .inl (k 1, 36, .inl f)), (hg, .inl (k 1, 32, .inl g))]) (tl := r0.tl) hD [0, 1, 2, 3, 4, 5, 6, 7] rfl rfl) hS (lv_sub hl [0, 1, 2, 3] rfl)
end
