section
/-- both sides' courses are the same, and what the class keeps of orders is right -/
def LFE (n ni wk od : Int) (f g wf gf sf kf A : Nat → Int32) (b : Int) : Prop := cL wk od wf gf sf = rLb A b ∧ KNC f g n ni od gf sf kf
theorem LFE.rg {n ni wk od b : Int} {f g wf gf sf kf A : Nat → Int32} (h : LFE n ni wk od f g wf gf sf kf A b) : gz A (b + 3) = wk ∧ gz A (b + 4) = od := ⟨(congrArg (fun x : LS_ => x.1) h.1).symm, (congrArg (fun x : LS_ => x.2.1) h.1).symm⟩
theorem LFE.mv {n ni n' ni' wk od wk' od' b c : Int} {f g wf gf sf kf f' g' wf' gf' sf' kf' A B : Nat → Int32} (h : LFE n ni wk od f g wf gf sf kf A b) (hb : 0 ≤ b ∧ 0 ≤ c) (hw : 0 ≤ wk ∧ wk ≤ 400) (ho : 0 ≤ od ∧ od ≤ 20) (k : ∀ e : Int, 0 ≤ e → e < 890 → gz B (c + e) = gz A (b + e)) (e1 : n' = n) (e2 : ni' = ni) (e4 : wk' = wk) (e3 : od' = od) (hf : CPY f' f 36) (hg : CPY g' g 32) (c0 : CPY wf' wf (wk + 1)) (c1 : CPY gf' gf od) (c2 : CPY sf' sf od) (c3 : CPY kf' kf (od * 6)) (hn : n ≤ 6) (hni : ni ≤ 8) : LFE n' ni' wk' od' f' g' wf' gf' sf' kf' B c := by
  have r := h.rg
  refine ⟨?_, h.2.cpy e1 e2 e3 hf hg c1 c2 c3 hn hni⟩
  rw [rLb_like hb.1 hb.2 (by rw [r.1]; exact hw) (by rw [r.2]; exact ho) (fun e p q => k e (by omega) (by omega)), ← h.1]
  exact cL_like e4 e3 c0 c1 c2
theorem LFE.keep {n ni wk od b : Int} {f g wf gf sf kf A B : Nat → Int32} (h : LFE n ni wk od f g wf gf sf kf A b) (hb : 0 ≤ b) (hw : 0 ≤ wk ∧ wk ≤ 400) (ho : 0 ≤ od ∧ od ≤ 20) (k : ∀ e : Int, b + 3 ≤ e → e < b + 520 → gz B e = gz A e) : LFE n ni wk od f g wf gf sf kf B b := by
  have r := h.rg
  refine ⟨?_, h.2⟩
  rw [rLb_like hb hb (by rw [r.1]; exact hw) (by rw [r.2]; exact ho) (fun e p q => k (b + e) (by omega) (by omega))]
  exact h.1
/-- both sides' YEARS are the same -/
def YFE (n th yr : Int) (w a b c p A : Nat → Int32) (d : Int) : Prop := (th = 0 ∧ gz A (d + 5) = -1) ∨ (th = 1 ∧ ∃ P : PR_, okR n P ∧ nsP P ∧ yRM A d P ∧ yCM w a b c p yr P)
theorem yRM.mv {A B : Nat → Int32} {d d' n : Int} {P : PR_} (h : yRM A d P) (ok : okR n P) (k : ∀ e : Int, 0 ≤ e → e < 884 → gz B (d' + e) = gz A (d + e)) : yRM B d' P := by
  refine ⟨(k 5 (by omega) (by omega)).trans h.1, fun j p q => ?_⟩
  have b := ok.1.1
  have r := h.2 j p q
  have kk : ∀ e : Int, 0 ≤ e → e < 6 → gz B (d' + 520 + 6 * j + e) = gz A (d + 520 + 6 * j + e) := fun e e1 e2 => by
    have := k (520 + 6 * j + e) (by omega) (by omega)
    rw [show d' + (520 + 6 * j + e) = d' + 520 + 6 * j + e by omega, show d + (520 + 6 * j + e) = d + 520 + 6 * j + e by omega] at this
    exact this
  obtain ⟨r1, r2, r3⟩ := r
  have k0 := kk 0 (by omega) (by omega)
  rw [Int.add_zero, Int.add_zero] at k0
  refine ⟨k0.trans r1, ?_, ?_⟩
  · rw [kk 4 (by omega) (by omega)]; exact r2
  · unfold yRS at r3 ⊢
    rw [kk 1 (by omega) (by omega), kk 2 (by omega) (by omega), kk 5 (by omega) (by omega)]
    exact r3
theorem YFE.mv {n n' th th' yr yr' d d' : Int} {w a b c p w' a' b' c' p' A B : Nat → Int32} (h : YFE n th yr w a b c p A d) (k : ∀ e : Int, 0 ≤ e → e < 884 → gz B (d' + e) = gz A (d + e)) (e0 : n' = n) (e1 : th' = th) (e2 : yr' = yr) (c1 : CPY w' w yr) (c2 : CPY a' a yr) (c3 : CPY b' b yr) (c4 : CPY c' c yr) (c5 : CPY p' p yr) : YFE n' th' yr' w' a' b' c' p' B d' := by
  subst e0 e1
  rcases h with ⟨h1, h2⟩ | ⟨h1, P, h2, h3, h4, h5⟩
  · exact Or.inl ⟨h1, (k 5 (by omega) (by omega)).trans h2⟩
  · exact Or.inr ⟨h1, P, h2, h3, h4.mv h2 k, h5.cpy e2 c1 c2 c3 c4 c5⟩
theorem YFE.keep {n th yr d : Int} {w a b c p A B : Nat → Int32} (h : YFE n th yr w a b c p A d) (k : ∀ e : Int, 0 ≤ e → e < 884 → gz B (d + e) = gz A (d + e)) : YFE n th yr w a b c p B d := by
  rcases h with ⟨h1, h2⟩ | ⟨h1, P, h2, h3, h4, h5⟩
  · exact Or.inl ⟨h1, (k 5 (by omega) (by omega)).trans h2⟩
  · exact Or.inr ⟨h1, P, h2, h3, h4.mv h2 k, h5⟩
/-- marks: said of a mark that stands -/
def LFI (i mk n ni wk od : Int) (f g wf gf sf kf A : Nat → Int32) (b : Int) : Prop := i < mk → LFE n ni wk od f g wf gf sf kf A b
def YFI (i mk n th yr : Int) (w a b c p A : Nat → Int32) (d : Int) : Prop := i < mk → YFE n th yr w a b c p A d
theorem LFE.mark {n ni wk od n0 ni0 wk0 od0 n' ni' wk' od' lw lw0 lw' th th0 th' yr yr0 yr' mk mk' i c M : Int} {f g wf gf sf kf f0 g0 wf0 gf0 sf0 kf0 f' g' wf' gf' sf' kf' w a b d p w0 a0 b0 d0 p0 w' a' b' d' p' A B : Nat → Int32} (hc : c = 890 * (i + 1)) (hi : 0 ≤ i ∧ i < 3) (old : LFI i mk n0 ni0 wk0 od0 f0 g0 wf0 gf0 sf0 kf0 A c) (olY : YFI i mk n0 th0 yr0 w0 a0 b0 d0 p0 A c) (h : LFE n ni wk od f g wf gf sf kf A 0) (hY : YFE n th yr w a b d p A 0)
    (cx : (mk = i → (n' = n ∧ ni' = ni ∧ lw' = lw) ∧ CPY f' f 36 ∧ CPY g' g 32) ∧ (¬ mk = i → (n' = n0 ∧ ni' = ni0 ∧ lw' = lw0) ∧ f' = f0 ∧ g' = g0))
    (cd : (mk = i → (wk' = wk ∧ od' = od ∧ th' = th ∧ yr' = yr) ∧ CPY wf' wf (wk + 1) ∧ CPY gf' gf od ∧ CPY sf' sf od ∧ CPY kf' kf (od * 6) ∧ CPY w' w yr ∧ CPY a' a yr ∧ CPY b' b yr ∧ CPY d' d yr ∧ CPY p' p yr) ∧ (¬ mk = i → (wk' = wk0 ∧ od' = od0 ∧ th' = th0 ∧ yr' = yr0) ∧ wf' = wf0 ∧ gf' = gf0 ∧ sf' = sf0 ∧ kf' = kf0 ∧ w' = w0 ∧ a' = a0 ∧ b' = b0 ∧ d' = d0 ∧ p' = p0))
    (hq : mk = M) (rf : (M < 3 → (∀ e : Int, 0 ≤ e → e < 890 → gz B (890 * (M + 1) + e) = gz A e) ∧ ∀ j : Int, 0 ≤ j → (j < 890 * (M + 1) ∨ 890 * (M + 1) + 890 ≤ j) → gz B j = gz A j) ∧ (¬ M < 3 → B = A))
    (hm : (mk = 3 ∧ mk' = 3) ∨ (mk < 3 ∧ mk' = mk + 1)) (hn : n ≤ 6) (hni : ni ≤ 8) (hw : 0 ≤ wk ∧ wk ≤ 400) (ho : 0 ≤ od ∧ od ≤ 20) (hw0 : 0 ≤ wk0 ∧ wk0 ≤ 400) (ho0 : 0 ≤ od0 ∧ od0 ≤ 20) : LFI i mk' n' ni' wk' od' f' g' wf' gf' sf' kf' B c ∧ YFI i mk' n' th' yr' w' a' b' d' p' B c := by
  subst hq
  by_cases q : mk = i
  · obtain ⟨⟨e1, e2, -⟩, hf, hg⟩ := cx.1 q
    obtain ⟨⟨e3, e4, e5, e6⟩, c0, c1, c2, c3, c4, c5, c6, c7, c8⟩ := cd.1 q
    have k : ∀ e : Int, 0 ≤ e → e < 890 → gz B (c + e) = gz A (0 + e) := fun e x y => by
      have := (rf.1 (by omega)).1 e x y
      rw [show 890 * (mk + 1) = c by rw [hc, q]] at this
      rw [this, show 0 + e = e by omega]
    exact ⟨fun _ => h.mv ⟨by omega, by omega⟩ hw ho k e1 e2 e3 e4 hf hg c0 c1 c2 c3 hn hni, fun _ => hY.mv (fun e x y => k e x (by omega)) e1 e5 e6 c4 c5 c6 c7 c8⟩
  · obtain ⟨⟨e1, e2, -⟩, e3, e4⟩ := cx.2 q
    obtain ⟨⟨f1, f2, f3, f4⟩, g1, g2, g3, g4, g5, g6, g7, g8, g9⟩ := cd.2 q
    subst e1 e2 e3 e4 f1 f2 f3 f4 g1 g2 g3 g4 g5 g6 g7 g8 g9
    have k : ∀ e : Int, 0 ≤ e → e < 890 → gz B (c + e) = gz A (c + e) := fun e x y => by
      by_cases m : mk < 3
      · exact (rf.1 m).2 (c + e) (by omega) (by omega)
      · rw [rf.2 m]
    exact ⟨fun z => (old (by omega)).keep (by omega) hw0 ho0 (fun e x y => by have := k (e - c) (by omega) (by omega); rw [show c + (e - c) = e by omega] at this; exact this), fun z => (olY (by omega)).keep (fun e x y => k e x (by omega))⟩
theorem LFE.back {n ni wk od th yr mk mk' c i M : Int} {f g wf gf sf kf w a b d p A B : Nat → Int32} (hc : c = 890 * (i + 1)) (hi : 0 ≤ i) (old : LFI i mk n ni wk od f g wf gf sf kf A c) (olY : YFI i mk n th yr w a b d p A c) (hq : mk = M) (rf : (0 < M → (∀ e : Int, 0 ≤ e → e < 890 → gz B e = gz A (890 * M + e)) ∧ ∀ j : Int, 890 ≤ j → gz B j = gz A j) ∧ (¬ 0 < M → B = A)) (hm : mk' ≤ mk) (hw : 0 ≤ wk ∧ wk ≤ 400) (ho : 0 ≤ od ∧ od ≤ 20) : LFI i mk' n ni wk od f g wf gf sf kf B c ∧ YFI i mk' n th yr w a b d p B c := by
  subst hq
  exact ⟨fun z => (old (by omega)).keep (by omega) hw ho (fun e x y => (rf.1 (by omega)).2 e (by omega)), fun z => (olY (by omega)).keep (fun e x y => (rf.1 (by omega)).2 (c + e) (by omega))⟩
/-- a mark comes back -/
theorem LFE.bk {n ni wk od n' ni' wk' od' lw lw' th th' yr yr' M : Int} {f g wf gf sf kf f' g' wf' gf' sf' kf' w a b d p w' a' b' d' p' A B : Nat → Int32} (h : LFE n ni wk od f g wf gf sf kf A (890 * M)) (hY : YFE n th yr w a b d p A (890 * M)) (cx : (n' = n ∧ ni' = ni ∧ lw' = lw) ∧ CPY f' f 36 ∧ CPY g' g 32)
    (cd : (wk' = wk ∧ od' = od ∧ th' = th ∧ yr' = yr) ∧ CPY wf' wf (wk + 1) ∧ CPY gf' gf od ∧ CPY sf' sf od ∧ CPY kf' kf (od * 6) ∧ CPY w' w yr ∧ CPY a' a yr ∧ CPY b' b yr ∧ CPY d' d yr ∧ CPY p' p yr) (k : ∀ e : Int, 0 ≤ e → e < 890 → gz B e = gz A (890 * M + e)) (hM : 0 ≤ M) (hn : n ≤ 6) (hni : ni ≤ 8) (hw : 0 ≤ wk ∧ wk ≤ 400) (ho : 0 ≤ od ∧ od ≤ 20) : LFE n' ni' wk' od' f' g' wf' gf' sf' kf' B 0 ∧ YFE n' th' yr' w' a' b' d' p' B 0 := by
  obtain ⟨⟨e1, e2, -⟩, hf, hg⟩ := cx
  obtain ⟨⟨e3, e4, e5, e6⟩, c0, c1, c2, c3, c4, c5, c6, c7, c8⟩ := cd
  have k2 : ∀ e : Int, 0 ≤ e → e < 890 → gz B (0 + e) = gz A (890 * M + e) := fun e x y => by rw [show 0 + e = e by omega]; exact k e x y
  exact ⟨h.mv ⟨by omega, by omega⟩ hw ho k2 e1 e2 e3 e4 hf hg c0 c1 c2 c3 hn hni, hY.mv (fun e x y => k2 e x (by omega)) e1 e5 e6 c4 c5 c6 c7 c8⟩
theorem YFE.fr {n th yr : Int} {w a b c p A B : Nat → Int32} (h : YFE n th yr w a b c p A 0) (k : FR B A) : YFE n th yr w a b c p B 0 := by
  rcases h with ⟨h1, h2⟩ | ⟨h1, P, h2, h3, h4, h5⟩
  · exact Or.inl ⟨h1, (k.1 (0 + 5) (by omega)).trans h2⟩
  · exact Or.inr ⟨h1, P, h2, h3, h4.fr h2 k, h5⟩
/-- what is left of loops is the same -/
theorem cQ_rQ {f g : Nat → Int32} (h : ∀ o : Int, 0 ≤ o → o < 60 → (1 ≤ gz f o ∧ gz g o = gz f o - 1) ∨ (¬ 1 ≤ gz f o ∧ gz g o = 0)) : cQ f = rQ g := cut_eq (fun o p q => by
  show (if 1 ≤ gz f o then gz f o - 1 else 0) = gz g o
  rcases h o p q with ⟨h1, h2⟩ | ⟨h1, h2⟩
  · rw [if_pos h1, h2]
  · rw [if_neg h1, h2])
set_option maxHeartbeats 4000000 in
set_option maxRecDepth 100000 in
theorem r_mean (l : Launch) (D : va_G) (k : Nat → ClassId) (hm : Nat) (Ma : Nat) (Mn : Nat) (Ms : Nat) (My : Nat) (Mt : Nat) (Mp : Nat) (Mx : Nat) (Mo : Nat) (Mk : Nat) (Ml : Nat) (Mb : Nat) (Mh : Nat) (Mc : Nat) (Mz : Nat) (Mr : Nat) (Mq : Nat) (Mst : Int) (Mtd : Int) (Msz : Int) (Mtk : Int) (Mfr : Int) (Men : Int) (Mva : Int) (Mfk : Int) (Mfp : Int) (Mfs : Int) (Mse : Int) (Mlt : Int) (Mdp : Int) (Mct : Int) (Mdr : Int) (Mrs : Int) (Mit : Int) (Mmk : Int) (Mtp : Int64) (Mbt : Int64) (Af : Nat → Int32) (Kf : Nat → Int32) (Lf : Nat → Int32) (Bf : Nat → Int32) (Hf : Nat → Int32) (Zf : Nat → Int32) (Rf : Nat → Int32) (Pg : PR_) (x1 : Int) (x2 : Int) (hM : M0 Af) (rgH : rgI Hf 0 1000000 120) (hdr : 0 ≤ Mdr ∧ Mdr ≤ 65535) (hyo : gz Af 5 = -1 ∨ (yRM Af 0 Pg ∧ okR (gz Af 0) Pg)) (hzq : okZ Zf) (h9x1 : -2147483648 ≤ x1 ∧ x1 < 2147483648) (h9x2 : -2147483648 ≤ x2 ∧ x2 < 2147483648) : WD (σ := ((Int × Int × Int × Int) × (Int64 × Int64 × Int64) × ((Nat → Int32) × (Nat → Int32) × (Nat → Int32) × (Nat → Int32) × (Nat → Int32) × (Nat → Int32) × (Nat → Int32)) × (Unit))) l yX12_mean cX12_mean 7 (some .boolean) 10 0 0 D k [.ref hm, .int (iZ x1), .int (iZ x2)] [(hm, .inr (12, [.ref Ma, .ref Mn, .int (iZ Mst), .long Mtp, .long Mbt, .ref Ms, .ref My, .ref Mt, .ref Mp, .ref Mx, .int (iZ Mtd), .int (iZ Msz), .int (iZ Mtk), .int (iZ Mfr), .int (iZ Men), .int (iZ Mva), .int (iZ Mfk), .int (iZ Mfp), .int (iZ Mfs), .int (iZ Mse), .int (iZ Mlt), .ref Mo, .int (iZ Mdp), .int (iZ Mct), .ref Mk, .ref Ml, .ref Mb, .ref Mh, .ref Mc, .int (iZ Mdr), .int (iZ Mrs), .ref Mz, .ref Mr, .ref Mq, .int (iZ Mit), .int (iZ Mmk)])), (Ma, .inl (k 1, 5340, .inl Af)), (Mk, .inl (k 1, 6, .inl Kf)), (Ml, .inl (k 1, 6, .inl Lf)), (Mb, .inl (k 1, 6, .inl Bf)), (Mh, .inl (k 1, 120, .inl Hf)), (Mz, .inl (k 1, 80, .inl Zf)), (Mr, .inl (k 1, 5, .inl Rf))] (fun u => some (.int (iZ u.1.1))) (fun u => (M0 u.2.2.1.1) ∧ (∀ e : Int, 520 ≤ e → e < 4450 → gz u.2.2.1.1 e = gz Af e) ∧ (0 ≤ u.1.2.2.1 ∧ u.1.2.2.1 ≤ 65535) ∧ (rgI u.2.2.1.2.2.2.2.1 0 1000000 120) ∧ (∀ e : Int, 0 ≤ e → e < 520 → gz u.2.2.1.1 e = gz Af e) ∧ (okZ u.2.2.1.2.2.2.2.2.1) ∧ (((((0 ≤ x1 ∧ x1 ≤ 9999) ∧ (1 ≤ x2 ∧ x2 ≤ 10) ∧ x1 + x2 - 1 ≤ 9999) ∧ ¬ gz Af 5 = -1) ∧ (u.1.1 : Int) = 1 ∧ ∃ S9 : Int, mnR (eR Af) Pg (rL Af) x1 (Int.toNat (x2)) (rQ Zf) 0 (rQ u.2.2.1.2.2.2.2.2.1) S9) ∨ (¬ (((0 ≤ x1 ∧ x1 ≤ 9999) ∧ (1 ≤ x2 ∧ x2 ≤ 10) ∧ x1 + x2 - 1 ≤ 9999) ∧ ¬ gz Af 5 = -1) ∧ (u.1.1 : Int) = 0 ∧ u.2.2.1.2.2.2.2.2.1 = Zf))) (fun u => [(hm, .inr (12, [.ref Ma, .ref Mn, .int (iZ u.1.2.1), .long u.2.1.2.1, .long u.2.1.2.2, .ref Ms, .ref My, .ref Mt, .ref Mp, .ref Mx, .int (iZ Mtd), .int (iZ Msz), .int (iZ Mtk), .int (iZ Mfr), .int (iZ Men), .int (iZ Mva), .int (iZ Mfk), .int (iZ Mfp), .int (iZ Mfs), .int (iZ Mse), .int (iZ Mlt), .ref Mo, .int (iZ Mdp), .int (iZ Mct), .ref Mk, .ref Ml, .ref Mb, .ref Mh, .ref Mc, .int (iZ u.1.2.2.1), .int (iZ u.1.2.2.2), .ref Mz, .ref Mr, .ref Mq, .int (iZ Mit), .int (iZ Mmk)])), (Ma, .inl (k 1, 5340, .inl u.2.2.1.1)), (Mk, .inl (k 1, 6, .inl u.2.2.1.2.1)), (Ml, .inl (k 1, 6, .inl u.2.2.1.2.2.1)), (Mb, .inl (k 1, 6, .inl u.2.2.1.2.2.2.1)), (Mh, .inl (k 1, 120, .inl u.2.2.1.2.2.2.2.1)), (Mz, .inl (k 1, 80, .inl u.2.2.1.2.2.2.2.2.1)), (Mr, .inl (k 1, 5, .inl u.2.2.1.2.2.2.2.2.2))]) := by
  refine MW (by decide) (Nat.le_of_ble_eq_true rfl) (fun p e s m below meth c ls A hx hb hml hr hlocks hin hts hown hKK hP hD hS hA hl => ?_)
  have hK := hKK.1
  have hl : lv_has ls 7 [(0, .ref hm), (1, .int (iZ x1)), (2, .int (iZ x2))] := hl
  obtain ⟨m0, m1, m3, m4, m5, mF, mO, mS⟩ := id hM
  have hM0 := hM
  refine lv_iload_n hx hb dX12_mean_0 rfl (lv_at hl 1 rfl) ?_
  refine lv_i2l (v := (iZ x1).toInt64) hx hb dX12_mean_1 rfl ?_
  refine lv_lconst (v := 0) hx hb dX12_mean_2 rfl ?_
  refine lv_ldc2 (own := RX12) (v := 9999) hx hb hown (hts _ qk_X12_399) dX12_mean_3 ?_
  refine CPS (As := [.long ((iZ x1).toInt64), .long 0, .long 9999]) (rest := []) hx hb hml hown hts hKK (hP.sub (ws' := []) [] rfl) (m_isFrom l D k ((iZ x1).toInt64) 0 9999) ci_X12_isFrom qm_X12_295 ⟨Nat.le_of_ble_eq_true rfl, Nat.le_of_ble_eq_true rfl⟩ ⟨Nat.le_of_ble_eq_true rfl, Nat.le_of_ble_eq_true rfl⟩ rfl hl.1 rfl (Nat.le_of_ble_eq_true rfl) dX12_mean_6 (fun z_1 hz_1 => ?_)
  have tt_2_z_1 := tI64 (z := x1) ⟨by omega, by omega⟩
  have tt_3_z_1 := show (0 : Int64).toInt = 0 from (by decide)
  have tt_4_z_1 := show (9999 : Int64).toInt = 9999 from (by decide)
  rcases hz_1 with ⟨qz_1, hz_1⟩ | ⟨qz_1, hz_1⟩
  ·
    subst qz_1
    refine lv_if_eq (tgt := 35) hx hb dX12_mean_9 rfl (fun c => absurd c (by decide)) (fun _ => ?_)
    refine lv_iload_n hx hb dX12_mean_12 rfl (lv_at hl 2 rfl) ?_
    refine lv_i2l (v := (iZ x2).toInt64) hx hb dX12_mean_13 rfl ?_
    refine lv_lconst (v := 1) hx hb dX12_mean_14 rfl ?_
    refine lv_ldc2 (own := RX12) (v := 10) hx hb hown (hts _ qk_X12_407) dX12_mean_15 ?_
    refine CPS (As := [.long ((iZ x2).toInt64), .long 1, .long 10]) (rest := []) hx hb hml hown hts hKK (hP.sub (ws' := []) [] rfl) (m_isFrom l D k ((iZ x2).toInt64) 1 10) ci_X12_isFrom qm_X12_295 ⟨Nat.le_of_ble_eq_true rfl, Nat.le_of_ble_eq_true rfl⟩ ⟨Nat.le_of_ble_eq_true rfl, Nat.le_of_ble_eq_true rfl⟩ rfl hl.1 rfl (Nat.le_of_ble_eq_true rfl) dX12_mean_18 (fun z_6 hz_6 => ?_)
    have tt_7_z_6 := tI64 (z := x2) ⟨by omega, by omega⟩
    have tt_8_z_6 := show (1 : Int64).toInt = 1 from (by decide)
    have tt_9_z_6 := show (10 : Int64).toInt = 10 from (by decide)
    rcases hz_6 with ⟨qz_6, hz_6⟩ | ⟨qz_6, hz_6⟩
    ·
      subst qz_6
      refine lv_if_eq (tgt := 35) hx hb dX12_mean_21 rfl (fun c => absurd c (by decide)) (fun _ => ?_)
      refine lv_iload_n hx hb dX12_mean_24 rfl (lv_at hl 1 rfl) ?_
      refine lv_iload_n hx hb dX12_mean_25 rfl (lv_at hl 2 rfl) ?_
      refine lv_iadd hx hb dX12_mean_26 ?_
      refine lv_topi (fun x_11 ex_11 => ?_)
      obtain rfl : x_11 = iZ (x1 + x2) := ex_11.trans (iZ_add x1 x2)
      refine lv_iconst (v := iZ 1) hx hb dX12_mean_27 rfl ?_
      refine lv_isub hx hb dX12_mean_28 ?_
      refine lv_topi (fun x_12 ex_12 => ?_)
      obtain rfl : x_12 = iZ ((x1 + x2) - 1) := ex_12.trans (iZ_sub (x1 + x2) 1)
      refine lv_sipush (v := iZ 9999) hx hb dX12_mean_29 sip_9999 ?_
      refine lv_icmp_le (tgt := 41) hx hb dX12_mean_32 rfl (fun c_13 => ?_) (fun c_13 => ?_)
      ·
        have c_13 := (zle (x := iZ ((x1 + x2) - 1)) (y := iZ 9999) rfl rfl ⟨by omega, by omega⟩ wn_9999).mp c_13
        refine lv_aload_n hx hb dX12_mean_41 rfl (lv_at hl 0 rfl) ?_
        refine va_get (D := D) (ci := 12) (v := .ref Ma) (C := RX12) (T := TX12) (N := 36) hx hb hts iX12 hown hK hP 0 rfl rfl 0 (bl rfl) (hts _ qf_X12_7) (fun _ h => h) rfl dX12_mean_42 ?_
        refine lv_iconst (v := iZ 5) hx hb dX12_mean_45 rfl ?_
        refine va_iald hx hb hK hP 1 1 rfl rfl (zin (e := 5) (n := 5340) ⟨by omega, by omega⟩ (bl rfl)) dX12_mean_46 ?_
        refine lv_topi (fun x_14 ex_14 => ?_)
        obtain rfl : x_14 = iZ (gz Af 5) := ex_14.trans (gz_eq ⟨by omega, by omega⟩)
        have h_15 := gz_rg Af 5
        refine lv_iconst (v := iZ (-1)) hx hb dX12_mean_47 rfl ?_
        refine lv_icmp_ne (tgt := 58) hx hb dX12_mean_48 rfl (fun c_16 => ?_) (fun c_16 => ?_)
        ·
          have c_16 := mt (zeq (x := iZ (gz Af 5)) (y := iZ (-1)) rfl rfl (gz_rg Af 5) wn_m1).mpr c_16
          obtain ⟨hyM, hok⟩ := hyo.resolve_left (by omega)
          refine lv_iconst (v := iZ 0) hx hb dX12_mean_58 rfl ?_
          refine lv_istore_n (lv' := [(3, .int (iZ 0)), (0, .ref hm), (1, .int (iZ x1)), (2, .int (iZ x2))]) hx hb dX12_mean_59 rfl hl (bl rfl) rfl (fun ls hl => ?_)
          have HL60 : ∀ (fu : Nat) (v3_60 : Int) (Afq60 : Nat → Int32) (H : Heap) (locs : List Loc) (ls : Array Slot), ((519) + 2 - v3_60) < (fu : Int) → ((0 ≤ v3_60 ∧ v3_60 ≤ (519) + 1)) → (∀ e : Int, 0 ≤ e → e < v3_60 → gz Afq60 (4450 + e) = gz Af e) → (∀ e : Int, 0 ≤ e → e < 4450 → gz Afq60 e = gz Af e) → va_P D vwCl [(hm, .inr (12, [.ref Ma, .ref Mn, .int (iZ Mst), .long Mtp, .long Mbt, .ref Ms, .ref My, .ref Mt, .ref Mp, .ref Mx, .int (iZ Mtd), .int (iZ Msz), .int (iZ Mtk), .int (iZ Mfr), .int (iZ Men), .int (iZ Mva), .int (iZ Mfk), .int (iZ Mfp), .int (iZ Mfs), .int (iZ Mse), .int (iZ Mlt), .ref Mo, .int (iZ Mdp), .int (iZ Mct), .ref Mk, .ref Ml, .ref Mb, .ref Mh, .ref Mc, .int (iZ Mdr), .int (iZ Mrs), .ref Mz, .ref Mr, .ref Mq, .int (iZ Mit), .int (iZ Mmk)])), (Ma, .inl (k 1, 5340, .inl Afq60)), (Mk, .inl (k 1, 6, .inl Kf)), (Ml, .inl (k 1, 6, .inl Lf)), (Mb, .inl (k 1, 6, .inl Bf)), (Mh, .inl (k 1, 120, .inl Hf)), (Mz, .inl (k 1, 80, .inl Zf)), (Mr, .inl (k 1, 5, .inl Rf))] H → va_D A [(hm, .inr (12, [.ref Ma, .ref Mn, .int (iZ Mst), .long Mtp, .long Mbt, .ref Ms, .ref My, .ref Mt, .ref Mp, .ref Mx, .int (iZ Mtd), .int (iZ Msz), .int (iZ Mtk), .int (iZ Mfr), .int (iZ Men), .int (iZ Mva), .int (iZ Mfk), .int (iZ Mfp), .int (iZ Mfs), .int (iZ Mse), .int (iZ Mlt), .ref Mo, .int (iZ Mdp), .int (iZ Mct), .ref Mk, .ref Ml, .ref Mb, .ref Mh, .ref Mc, .int (iZ Mdr), .int (iZ Mrs), .ref Mz, .ref Mr, .ref Mq, .int (iZ Mit), .int (iZ Mmk)])), (Ma, .inl (k 1, 5340, .inl Afq60)), (Mk, .inl (k 1, 6, .inl Kf)), (Ml, .inl (k 1, 6, .inl Lf)), (Mb, .inl (k 1, 6, .inl Bf)), (Mh, .inl (k 1, 120, .inl Hf)), (Mz, .inl (k 1, 80, .inl Zf)), (Mr, .inl (k 1, 5, .inl Rf))] → va_S A s.heap H locs → lv_has ls 7 [(3, .int (iZ v3_60)), (0, .ref hm), (1, .int (iZ x1)), (2, .int (iZ x2))] → W p l e (rj 10 0 0) s m [.ref hm, .int (iZ x1), .int (iZ x2)].toArray below meth c H locs 0 0 (MQ below (QW (σ := ((Int × Int × Int × Int) × (Int64 × Int64 × Int64) × ((Nat → Int32) × (Nat → Int32) × (Nat → Int32) × (Nat → Int32) × (Nat → Int32) × (Nat → Int32) × (Nat → Int32)) × (Unit))) (fun u => some (.int (iZ u.1.1))) (fun u => (M0 u.2.2.1.1) ∧ (∀ e : Int, 520 ≤ e → e < 4450 → gz u.2.2.1.1 e = gz Af e) ∧ (0 ≤ u.1.2.2.1 ∧ u.1.2.2.1 ≤ 65535) ∧ (rgI u.2.2.1.2.2.2.2.1 0 1000000 120) ∧ (∀ e : Int, 0 ≤ e → e < 520 → gz u.2.2.1.1 e = gz Af e) ∧ (okZ u.2.2.1.2.2.2.2.2.1) ∧ (((((0 ≤ x1 ∧ x1 ≤ 9999) ∧ (1 ≤ x2 ∧ x2 ≤ 10) ∧ x1 + x2 - 1 ≤ 9999) ∧ ¬ gz Af 5 = -1) ∧ (u.1.1 : Int) = 1 ∧ ∃ S9 : Int, mnR (eR Af) Pg (rL Af) x1 (Int.toNat (x2)) (rQ Zf) 0 (rQ u.2.2.1.2.2.2.2.2.1) S9) ∨ (¬ (((0 ≤ x1 ∧ x1 ≤ 9999) ∧ (1 ≤ x2 ∧ x2 ≤ 10) ∧ x1 + x2 - 1 ≤ 9999) ∧ ¬ gz Af 5 = -1) ∧ (u.1.1 : Int) = 0 ∧ u.2.2.1.2.2.2.2.2.1 = Zf))) (fun u => [(hm, .inr (12, [.ref Ma, .ref Mn, .int (iZ u.1.2.1), .long u.2.1.2.1, .long u.2.1.2.2, .ref Ms, .ref My, .ref Mt, .ref Mp, .ref Mx, .int (iZ Mtd), .int (iZ Msz), .int (iZ Mtk), .int (iZ Mfr), .int (iZ Men), .int (iZ Mva), .int (iZ Mfk), .int (iZ Mfp), .int (iZ Mfs), .int (iZ Mse), .int (iZ Mlt), .ref Mo, .int (iZ Mdp), .int (iZ Mct), .ref Mk, .ref Ml, .ref Mb, .ref Mh, .ref Mc, .int (iZ u.1.2.2.1), .int (iZ u.1.2.2.2), .ref Mz, .ref Mr, .ref Mq, .int (iZ Mit), .int (iZ Mmk)])), (Ma, .inl (k 1, 5340, .inl u.2.2.1.1)), (Mk, .inl (k 1, 6, .inl u.2.2.1.2.1)), (Ml, .inl (k 1, 6, .inl u.2.2.1.2.2.1)), (Mb, .inl (k 1, 6, .inl u.2.2.1.2.2.2.1)), (Mh, .inl (k 1, 120, .inl u.2.2.1.2.2.2.2.1)), (Mz, .inl (k 1, 80, .inl u.2.2.1.2.2.2.2.2.1)), (Mr, .inl (k 1, 5, .inl u.2.2.1.2.2.2.2.2.2))]) D A) [.ref hm, .int (iZ x1), .int (iZ x2)].toArray s 0 0 A) (F0 m 60 ls []) := by
            intro fu
            induction fu with
            | zero => intro v3_60 Afq60 H locs ls hμ60 hi60 hw1 hk1 hP hD hS hl; exact absurd hμ60 (by omega)
            | succ fu ih60 =>
              intro v3_60 Afq60 H locs ls hμ60 hi60 hw1 hk1 hP hD hS hl
              refine lv_iload_n hx hb dX12_mean_60 rfl (lv_at hl 0 rfl) ?_
              refine lv_sipush (v := iZ 520) hx hb dX12_mean_61 sip_520 ?_
              refine lv_icmp_ge (tgt := 89) hx hb dX12_mean_64 rfl (fun c_17 => ?_) (fun c_17 => ?_)
              ·
                have c_17 := (zle (x := iZ 520) (y := iZ v3_60) rfl rfl wn_520 ⟨by omega, by omega⟩).mp c_17
                obtain rfl : v3_60 = 520 := by omega
                have hMw : M0 Afq60 := M0.back hM (fun e h1 h2 => hk1 e h1 (by omega)) (fun e h1 h2 => hk1 e (by omega) h2)
                obtain ⟨m0w, m1w, m3w, m4w, m5w, mFw, mOw, mSw⟩ := id hMw
                refine lv_lconst (v := 0) hx hb dX12_mean_89 rfl ?_
                refine lv_lstore_n (lv' := [(3, .long 0), (0, .ref hm), (1, .int (iZ x1)), (2, .int (iZ x2))]) hx hb dX12_mean_90 rfl hl (bl rfl) rfl (fun ls hl => ?_)
                refine lv_iconst (v := iZ 0) hx hb dX12_mean_91 rfl ?_
                refine lv_istore (lv' := [(5, .int (iZ 0)), (3, .long 0), (0, .ref hm), (1, .int (iZ x1)), (2, .int (iZ x2))]) hx hb dX12_mean_92 hl (bl rfl) rfl (fun ls hl => ?_)
                have HL94 : ∀ (fu : Nat) (v3_94 : Int64) (v5_94 : Int) (Mdrq94 : Int) (Mrsq94 : Int) (Afq94 : Nat → Int32) (Kfq94 : Nat → Int32) (Lfq94 : Nat → Int32) (Bfq94 : Nat → Int32) (Hfq94 : Nat → Int32) (Zfq94 : Nat → Int32) (Rfq94 : Nat → Int32) (H : Heap) (locs : List Loc) (ls : Array Slot), ((x2) + 2 - v5_94) < (fu : Int) → ((0 ≤ v5_94 ∧ v5_94 ≤ (x2) + 1)) → (M0 Afq94) → (∀ e : Int, 0 ≤ e → e < 520 → gz Afq94 (4450 + e) = gz Af e) → (∀ e : Int, 520 ≤ e → e < 4450 → gz Afq94 e = gz Af e) → (0 ≤ Mdrq94 ∧ Mdrq94 ≤ 65535) → (gz Afq94 0 = gz Af 0) → (rgI Hfq94 0 1000000 120) → (∀ e : Int, 0 ≤ e → e < 520 → gz Afq94 e = gz Af e) → (v5_94 ≤ x2) → (okZ Zfq94) → (∃ S9 : Int, mnR (eR Af) Pg (rL Af) x1 (Int.toNat (v5_94)) (rQ Zf) 0 (rQ Zfq94) S9) → va_P D vwCl [(hm, .inr (12, [.ref Ma, .ref Mn, .int (iZ Mst), .long Mtp, .long Mbt, .ref Ms, .ref My, .ref Mt, .ref Mp, .ref Mx, .int (iZ Mtd), .int (iZ Msz), .int (iZ Mtk), .int (iZ Mfr), .int (iZ Men), .int (iZ Mva), .int (iZ Mfk), .int (iZ Mfp), .int (iZ Mfs), .int (iZ Mse), .int (iZ Mlt), .ref Mo, .int (iZ Mdp), .int (iZ Mct), .ref Mk, .ref Ml, .ref Mb, .ref Mh, .ref Mc, .int (iZ Mdrq94), .int (iZ Mrsq94), .ref Mz, .ref Mr, .ref Mq, .int (iZ Mit), .int (iZ Mmk)])), (Ma, .inl (k 1, 5340, .inl Afq94)), (Mk, .inl (k 1, 6, .inl Kfq94)), (Ml, .inl (k 1, 6, .inl Lfq94)), (Mb, .inl (k 1, 6, .inl Bfq94)), (Mh, .inl (k 1, 120, .inl Hfq94)), (Mz, .inl (k 1, 80, .inl Zfq94)), (Mr, .inl (k 1, 5, .inl Rfq94))] H → va_D A [(hm, .inr (12, [.ref Ma, .ref Mn, .int (iZ Mst), .long Mtp, .long Mbt, .ref Ms, .ref My, .ref Mt, .ref Mp, .ref Mx, .int (iZ Mtd), .int (iZ Msz), .int (iZ Mtk), .int (iZ Mfr), .int (iZ Men), .int (iZ Mva), .int (iZ Mfk), .int (iZ Mfp), .int (iZ Mfs), .int (iZ Mse), .int (iZ Mlt), .ref Mo, .int (iZ Mdp), .int (iZ Mct), .ref Mk, .ref Ml, .ref Mb, .ref Mh, .ref Mc, .int (iZ Mdrq94), .int (iZ Mrsq94), .ref Mz, .ref Mr, .ref Mq, .int (iZ Mit), .int (iZ Mmk)])), (Ma, .inl (k 1, 5340, .inl Afq94)), (Mk, .inl (k 1, 6, .inl Kfq94)), (Ml, .inl (k 1, 6, .inl Lfq94)), (Mb, .inl (k 1, 6, .inl Bfq94)), (Mh, .inl (k 1, 120, .inl Hfq94)), (Mz, .inl (k 1, 80, .inl Zfq94)), (Mr, .inl (k 1, 5, .inl Rfq94))] → va_S A s.heap H locs → lv_has ls 7 [(5, .int (iZ v5_94)), (3, .long v3_94), (0, .ref hm), (1, .int (iZ x1)), (2, .int (iZ x2))] → W p l e (rj 10 0 0) s m [.ref hm, .int (iZ x1), .int (iZ x2)].toArray below meth c H locs 0 0 (MQ below (QW (σ := ((Int × Int × Int × Int) × (Int64 × Int64 × Int64) × ((Nat → Int32) × (Nat → Int32) × (Nat → Int32) × (Nat → Int32) × (Nat → Int32) × (Nat → Int32) × (Nat → Int32)) × (Unit))) (fun u => some (.int (iZ u.1.1))) (fun u => (M0 u.2.2.1.1) ∧ (∀ e : Int, 520 ≤ e → e < 4450 → gz u.2.2.1.1 e = gz Af e) ∧ (0 ≤ u.1.2.2.1 ∧ u.1.2.2.1 ≤ 65535) ∧ (rgI u.2.2.1.2.2.2.2.1 0 1000000 120) ∧ (∀ e : Int, 0 ≤ e → e < 520 → gz u.2.2.1.1 e = gz Af e) ∧ (okZ u.2.2.1.2.2.2.2.2.1) ∧ (((((0 ≤ x1 ∧ x1 ≤ 9999) ∧ (1 ≤ x2 ∧ x2 ≤ 10) ∧ x1 + x2 - 1 ≤ 9999) ∧ ¬ gz Af 5 = -1) ∧ (u.1.1 : Int) = 1 ∧ ∃ S9 : Int, mnR (eR Af) Pg (rL Af) x1 (Int.toNat (x2)) (rQ Zf) 0 (rQ u.2.2.1.2.2.2.2.2.1) S9) ∨ (¬ (((0 ≤ x1 ∧ x1 ≤ 9999) ∧ (1 ≤ x2 ∧ x2 ≤ 10) ∧ x1 + x2 - 1 ≤ 9999) ∧ ¬ gz Af 5 = -1) ∧ (u.1.1 : Int) = 0 ∧ u.2.2.1.2.2.2.2.2.1 = Zf))) (fun u => [(hm, .inr (12, [.ref Ma, .ref Mn, .int (iZ u.1.2.1), .long u.2.1.2.1, .long u.2.1.2.2, .ref Ms, .ref My, .ref Mt, .ref Mp, .ref Mx, .int (iZ Mtd), .int (iZ Msz), .int (iZ Mtk), .int (iZ Mfr), .int (iZ Men), .int (iZ Mva), .int (iZ Mfk), .int (iZ Mfp), .int (iZ Mfs), .int (iZ Mse), .int (iZ Mlt), .ref Mo, .int (iZ Mdp), .int (iZ Mct), .ref Mk, .ref Ml, .ref Mb, .ref Mh, .ref Mc, .int (iZ u.1.2.2.1), .int (iZ u.1.2.2.2), .ref Mz, .ref Mr, .ref Mq, .int (iZ Mit), .int (iZ Mmk)])), (Ma, .inl (k 1, 5340, .inl u.2.2.1.1)), (Mk, .inl (k 1, 6, .inl u.2.2.1.2.1)), (Ml, .inl (k 1, 6, .inl u.2.2.1.2.2.1)), (Mb, .inl (k 1, 6, .inl u.2.2.1.2.2.2.1)), (Mh, .inl (k 1, 120, .inl u.2.2.1.2.2.2.2.1)), (Mz, .inl (k 1, 80, .inl u.2.2.1.2.2.2.2.2.1)), (Mr, .inl (k 1, 5, .inl u.2.2.1.2.2.2.2.2.2))]) D A) [.ref hm, .int (iZ x1), .int (iZ x2)].toArray s 0 0 A) (F0 m 94 ls []) := by
                  intro fu
                  induction fu with
                  | zero => intro v3_94 v5_94 Mdrq94 Mrsq94 Afq94 Kfq94 Lfq94 Bfq94 Hfq94 Zfq94 Rfq94 H locs ls hμ94 hi94 hM94 hO1 hO2 hdr2 hF94 rgh2 hO3 hb94 hzq9 hmn9 hP hD hS hl; exact absurd hμ94 (by omega)
                  | succ fu ih94 =>
                    intro v3_94 v5_94 Mdrq94 Mrsq94 Afq94 Kfq94 Lfq94 Bfq94 Hfq94 Zfq94 Rfq94 H locs ls hμ94 hi94 hM94 hO1 hO2 hdr2 hF94 rgh2 hO3 hb94 hzq9 hmn9 hP hD hS hl
                    obtain ⟨m0o, m1o, m3o, m4o, m5o, mFo, mOo, mSo⟩ := id hM94
                    have hyq : yRM Afq94 0 Pg := yRM.mv hyM hok (fun e a9 b9 => by rw [show (0 : Int) + e = e by omega]; by_cases c9 : e < 520; exact hO3 e a9 c9; exact hO2 e (by omega) (by omega))
                    have hoq : okR (gz Afq94 0) Pg := by rw [hO3 0 (by omega) (by omega)]; exact hok
                    have hrl : rL Afq94 = rL Af := rL_like ⟨by omega, by omega⟩ ⟨by omega, by omega⟩ (fun e a9 b9 => hO3 e (by omega) b9)
                    have her : eR Afq94 = eR Af := eR_mv hM0 (fun e a9 b9 => hO3 e a9 (by omega))
                    refine lv_iload hx hb dX12_mean_94 (lv_at hl 0 rfl) ?_
                    refine lv_iload_n hx hb dX12_mean_96 rfl (lv_at hl 4 rfl) ?_
                    refine lv_icmp_ge (tgt := 170) hx hb dX12_mean_97 rfl (fun c_18 => ?_) (fun c_18 => ?_)
                    ·
                      have c_18 := (zle (x := iZ x2) (y := iZ v5_94) rfl rfl ⟨by omega, by omega⟩ ⟨by omega, by omega⟩).mp c_18
                      refine lv_aload_n hx hb dX12_mean_170 rfl (lv_at hl 2 rfl) ?_
                      refine lv_lload_n hx hb dX12_mean_171 rfl (lv_at hl 1 rfl) ?_
                      refine lv_iload_n hx hb dX12_mean_172 rfl (lv_at hl 4 rfl) ?_
                      refine lv_i2l (v := (iZ x2).toInt64) hx hb dX12_mean_173 rfl ?_
                      refine CWV (As := [.long v3_94, .long ((iZ x2).toInt64)]) (rest := []) (wc := _) (wr := [(Ma, .inl (k 1, 5340, .inl Afq94)), (Mk, .inl (k 1, 6, .inl Kfq94)), (Ml, .inl (k 1, 6, .inl Lfq94)), (Mb, .inl (k 1, 6, .inl Bfq94)), (Mh, .inl (k 1, 120, .inl Hfq94)), (Mz, .inl (k 1, 80, .inl Zfq94)), (Mr, .inl (k 1, 5, .inl Rfq94))]) hx hb hml hown hts hKK hP hD hS hA (m_tellsBy l D k hm Ma Mn Ms My Mt Mp Mx Mo Mk Ml Mb Mh Mc Mz Mr Mq Mst Mtd Msz Mtk Mfr Men Mva Mfk Mfp Mfs Mse Mlt Mdp Mct Mdrq94 Mrsq94 Mit Mmk Mtp Mbt v3_94 ((iZ x2).toInt64) (by have t9 := tI64 (z := x2) ⟨by omega, by omega⟩; omega)) ci_X12_tellsBy qm_X12_359 ⟨Nat.le_of_ble_eq_true rfl, Nat.le_of_ble_eq_true rfl⟩ ⟨Nat.le_of_ble_eq_true rfl, Nat.le_of_ble_eq_true rfl⟩ [0] [1, 2, 3, 4, 5, 6, 7] rfl rfl rfl rfl rfl (dj rfl) 0 rfl rfl rfl hl.1 rfl (Nat.le_of_ble_eq_true rfl) dX12_mean_174 (fun u_19 H locs hφ hP hD hS => ?_)
                      refine W.eq (g2 := F0 m 177 ls [.int (iZ 1)]) rfl ?_
                      exact EWz hx hb hr hlocks hS ((1, u_19.1.2, Mdrq94, Mrsq94), (0, u_19.2.1.2.1, u_19.2.1.2.2), (Afq94, Kfq94, Lfq94, Bfq94, Hfq94, Zfq94, Rfq94), ()) rfl rfl ⟨(show M0 Afq94 from hM94), (show ∀ e : Int, 520 ≤ e → e < 4450 → gz Afq94 e = gz Af e from hO2), (show 0 ≤ Mdrq94 ∧ Mdrq94 ≤ 65535 from (by omega)), (show rgI Hfq94 0 1000000 120 from rgh2), (show ∀ e : Int, 0 ≤ e → e < 520 → gz Afq94 e = gz Af e from hO3), (show okZ Zfq94 from hzq9), (show ((((0 ≤ x1 ∧ x1 ≤ 9999) ∧ (1 ≤ x2 ∧ x2 ≤ 10) ∧ x1 + x2 - 1 ≤ 9999) ∧ ¬ gz Af 5 = -1) ∧ (1 : Int) = 1 ∧ ∃ S9 : Int, mnR (eR Af) Pg (rL Af) x1 (Int.toNat (x2)) (rQ Zf) 0 (rQ Zfq94) S9) ∨ (¬ (((0 ≤ x1 ∧ x1 ≤ 9999) ∧ (1 ≤ x2 ∧ x2 ≤ 10) ∧ x1 + x2 - 1 ≤ 9999) ∧ ¬ gz Af 5 = -1) ∧ (1 : Int) = 0 ∧ Zfq94 = Zf) from (Or.inl ⟨by omega, rfl, by have e9 : v5_94 = x2 := (by omega); rw [e9] at hmn9; exact hmn9⟩))⟩ (hP.sub [7, 0, 1, 2, 3, 4, 5, 6] rfl) (hD.sub [7, 0, 1, 2, 3, 4, 5, 6] rfl rfl) dX12_mean_177
                    ·
                      have c_18 := mt (zle (x := iZ x2) (y := iZ v5_94) rfl rfl ⟨by omega, by omega⟩ ⟨by omega, by omega⟩).mpr c_18
                      refine lv_aload_n hx hb dX12_mean_100 rfl (lv_at hl 2 rfl) ?_
                      refine lv_iload_n hx hb dX12_mean_101 rfl (lv_at hl 3 rfl) ?_
                      refine lv_iload hx hb dX12_mean_102 (lv_at hl 0 rfl) ?_
                      refine lv_iadd hx hb dX12_mean_104 ?_
                      refine lv_topi (fun x_20 ex_20 => ?_)
                      obtain rfl : x_20 = iZ (x1 + v5_94) := ex_20.trans (iZ_add x1 v5_94)
                      refine CWV (As := [.int (iZ (x1 + v5_94))]) (rest := []) (wc := _) (wr := []) hx hb hml hown hts hKK hP hD hS hA (r_lives l D k hm Ma Mn Ms My Mt Mp Mx Mo Mk Ml Mb Mh Mc Mz Mr Mq Mst Mtd Msz Mtk Mfr Men Mva Mfk Mfp Mfs Mse Mlt Mdp Mct Mdrq94 Mrsq94 Mit Mmk Mtp Mbt Afq94 Kfq94 Lfq94 Bfq94 Hfq94 Zfq94 Rfq94 (x1 + v5_94) Pg hM94 ⟨by omega, by omega⟩ rgh2 hyq hoq hzq9) ci_X12_lives qm_X12_401 ⟨Nat.le_of_ble_eq_true rfl, Nat.le_of_ble_eq_true rfl⟩ ⟨Nat.le_of_ble_eq_true rfl, Nat.le_of_ble_eq_true rfl⟩ [0, 1, 2, 3, 4, 5, 6, 7] [] rfl rfl rfl rfl rfl (dj rfl) 0 rfl rfl rfl hl.1 rfl (Nat.le_of_ble_eq_true rfl) dX12_mean_105 (fun u_21 H locs hφ hP hD hS => ?_)
                      obtain ⟨p_22, p_23, p_24, p_25, p_26, p_27, p_28, p_29⟩ : (M0 u_21.2.2.1.1) ∧ (FR u_21.2.2.1.1 Afq94) ∧ (0 ≤ u_21.1.2.1 ∧ u_21.1.2.1 ≤ 65535) ∧ (rgI u_21.2.2.1.2.2.2.2.1 0 1000000 120) ∧ (0 ≤ u_21.1.2.2 ∧ u_21.1.2.2 ≤ 200) ∧ (∃ r9 : Int, isRn_ (yS (eR Afq94) Pg) (0, rL Afq94, rQ Zfq94, (x1 + v5_94), 0, 0, 0, 0, 0, 0) (r9, rL u_21.2.2.1.1, rQ u_21.2.2.1.2.2.2.2.2.1, u_21.1.2.1, u_21.1.2.2, gz u_21.2.2.1.2.2.2.2.2.2 0, gz u_21.2.2.1.2.2.2.2.2.2 1, gz u_21.2.2.1.2.2.2.2.2.2 2, gz u_21.2.2.1.2.2.2.2.2.2 3, gz u_21.2.2.1.2.2.2.2.2.2 4)) ∧ (okZ u_21.2.2.1.2.2.2.2.2.1) ∧ (∀ j : Int, 0 ≤ j → j < 5 → 0 ≤ gz u_21.2.2.1.2.2.2.2.2.2 j ∧ gz u_21.2.2.1.2.2.2.2.2.2 j ≤ 30000) := hφ
                      obtain ⟨m0m_30, m1m_30, m3m_30, m4m_30, m5m_30, mFm_30, mOm_30, mSm_30⟩ := id p_22
                      have frm_30 := FR.z p_23
                      refine W.eq (g2 := F0 m 108 ls []) rfl ?_
                      refine lv_lload_n hx hb dX12_mean_108 rfl (lv_at hl 1 rfl) ?_
                      refine lv_aload_n hx hb dX12_mean_109 rfl (lv_at hl 2 rfl) ?_
                      refine va_get (D := D) (ci := 12) (v := .ref Ma) (C := RX12) (T := TX12) (N := 36) hx hb hts iX12 hown hK hP 0 rfl rfl 0 (bl rfl) (hts _ qf_X12_7) (fun _ h => h) rfl dX12_mean_110 ?_
                      refine lv_bipush (v := iZ 118) hx hb dX12_mean_113 bip_118 ?_
                      refine lv_aload_n hx hb dX12_mean_115 rfl (lv_at hl 2 rfl) ?_
                      refine va_get (D := D) (ci := 12) (v := .ref Ma) (C := RX12) (T := TX12) (N := 36) hx hb hts iX12 hown hK hP 0 rfl rfl 0 (bl rfl) (hts _ qf_X12_7) (fun _ h => h) rfl dX12_mean_116 ?_
                      refine lv_iconst (v := iZ 3) hx hb dX12_mean_119 rfl ?_
                      refine va_iald hx hb hK hP 1 1 rfl rfl (zin (e := 3) (n := 5340) ⟨by omega, by omega⟩ (bl rfl)) dX12_mean_120 ?_
                      refine lv_topi (fun x_31 ex_31 => ?_)
                      obtain rfl : x_31 = iZ (gz u_21.2.2.1.1 3) := ex_31.trans (gz_eq ⟨by omega, by omega⟩)
                      have h_32 := gz_rg u_21.2.2.1.1 3
                      refine lv_iadd hx hb dX12_mean_121 ?_
                      refine lv_topi (fun x_33 ex_33 => ?_)
                      obtain rfl : x_33 = iZ (118 + (gz u_21.2.2.1.1 3)) := ex_33.trans (iZ_add 118 (gz u_21.2.2.1.1 3))
                      refine va_iald hx hb hK hP 1 1 rfl rfl (zin (e := (118 + (gz u_21.2.2.1.1 3))) (n := 5340) ⟨by omega, by omega⟩ (bl rfl)) dX12_mean_122 ?_
                      refine lv_topi (fun x_34 ex_34 => ?_)
                      obtain rfl : x_34 = iZ (gz u_21.2.2.1.1 (118 + (gz u_21.2.2.1.1 3))) := ex_34.trans (gz_eq ⟨by omega, by omega⟩)
                      have h_35 := gz_rg u_21.2.2.1.1 (118 + (gz u_21.2.2.1.1 3))
                      refine CPS (As := [.int (iZ (gz u_21.2.2.1.1 (118 + (gz u_21.2.2.1.1 3))))]) (rest := [.long v3_94]) hx hb hml hown hts hKK (hP.sub (ws' := []) [] rfl) (m_bits l D k (gz u_21.2.2.1.1 (118 + (gz u_21.2.2.1.1 3))) ⟨by omega, by omega⟩) ci_X12_bits qm_X12_409 ⟨Nat.le_of_ble_eq_true rfl, Nat.le_of_ble_eq_true rfl⟩ ⟨Nat.le_of_ble_eq_true rfl, Nat.le_of_ble_eq_true rfl⟩ rfl hl.1 rfl (Nat.le_of_ble_eq_true rfl) dX12_mean_123 (fun z_36 hz_36 => ?_)
                      refine lv_i2l (v := (iZ z_36).toInt64) hx hb dX12_mean_126 rfl ?_
                      refine lv_ladd hx hb dX12_mean_127 ?_
                      refine lv_topl (fun y_37 ey_37 => ?_)
                      refine lv_lstore_n (lv' := [(3, .long y_37), (5, .int (iZ v5_94)), (0, .ref hm), (1, .int (iZ x1)), (2, .int (iZ x2))]) hx hb dX12_mean_128 rfl hl (bl rfl) rfl (fun ls hl => ?_)
                      refine lv_iconst (v := iZ 0) hx hb dX12_mean_129 rfl ?_
                      refine lv_istore (lv' := [(6, .int (iZ 0)), (3, .long y_37), (5, .int (iZ v5_94)), (0, .ref hm), (1, .int (iZ x1)), (2, .int (iZ x2))]) hx hb dX12_mean_130 hl (bl rfl) rfl (fun ls hl => ?_)
                      have HL132 : ∀ (fu : Nat) (v6_132 : Int) (Afq132 : Nat → Int32) (H : Heap) (locs : List Loc) (ls : Array Slot), ((519) + 2 - v6_132) < (fu : Int) → ((0 ≤ v6_132 ∧ v6_132 ≤ (519) + 1)) → (∀ e : Int, 0 ≤ e → e < v6_132 → gz Afq132 e = gz u_21.2.2.1.1 (4450 + e)) → (∀ e : Int, 520 ≤ e → gz Afq132 e = gz u_21.2.2.1.1 e) → va_P D vwCl [(hm, .inr (12, [.ref Ma, .ref Mn, .int (iZ Mst), .long Mtp, .long Mbt, .ref Ms, .ref My, .ref Mt, .ref Mp, .ref Mx, .int (iZ Mtd), .int (iZ Msz), .int (iZ Mtk), .int (iZ Mfr), .int (iZ Men), .int (iZ Mva), .int (iZ Mfk), .int (iZ Mfp), .int (iZ Mfs), .int (iZ Mse), .int (iZ Mlt), .ref Mo, .int (iZ Mdp), .int (iZ Mct), .ref Mk, .ref Ml, .ref Mb, .ref Mh, .ref Mc, .int (iZ u_21.1.2.1), .int (iZ u_21.1.2.2), .ref Mz, .ref Mr, .ref Mq, .int (iZ Mit), .int (iZ Mmk)])), (Ma, .inl (k 1, 5340, .inl Afq132)), (Mk, .inl (k 1, 6, .inl u_21.2.2.1.2.1)), (Ml, .inl (k 1, 6, .inl u_21.2.2.1.2.2.1)), (Mb, .inl (k 1, 6, .inl u_21.2.2.1.2.2.2.1)), (Mh, .inl (k 1, 120, .inl u_21.2.2.1.2.2.2.2.1)), (Mz, .inl (k 1, 80, .inl u_21.2.2.1.2.2.2.2.2.1)), (Mr, .inl (k 1, 5, .inl u_21.2.2.1.2.2.2.2.2.2))] H → va_D A [(hm, .inr (12, [.ref Ma, .ref Mn, .int (iZ Mst), .long Mtp, .long Mbt, .ref Ms, .ref My, .ref Mt, .ref Mp, .ref Mx, .int (iZ Mtd), .int (iZ Msz), .int (iZ Mtk), .int (iZ Mfr), .int (iZ Men), .int (iZ Mva), .int (iZ Mfk), .int (iZ Mfp), .int (iZ Mfs), .int (iZ Mse), .int (iZ Mlt), .ref Mo, .int (iZ Mdp), .int (iZ Mct), .ref Mk, .ref Ml, .ref Mb, .ref Mh, .ref Mc, .int (iZ u_21.1.2.1), .int (iZ u_21.1.2.2), .ref Mz, .ref Mr, .ref Mq, .int (iZ Mit), .int (iZ Mmk)])), (Ma, .inl (k 1, 5340, .inl Afq132)), (Mk, .inl (k 1, 6, .inl u_21.2.2.1.2.1)), (Ml, .inl (k 1, 6, .inl u_21.2.2.1.2.2.1)), (Mb, .inl (k 1, 6, .inl u_21.2.2.1.2.2.2.1)), (Mh, .inl (k 1, 120, .inl u_21.2.2.1.2.2.2.2.1)), (Mz, .inl (k 1, 80, .inl u_21.2.2.1.2.2.2.2.2.1)), (Mr, .inl (k 1, 5, .inl u_21.2.2.1.2.2.2.2.2.2))] → va_S A s.heap H locs → lv_has ls 7 [(6, .int (iZ v6_132)), (3, .long y_37), (5, .int (iZ v5_94)), (0, .ref hm), (1, .int (iZ x1)), (2, .int (iZ x2))] → W p l e (rj 10 0 0) s m [.ref hm, .int (iZ x1), .int (iZ x2)].toArray below meth c H locs 0 0 (MQ below (QW (σ := ((Int × Int × Int × Int) × (Int64 × Int64 × Int64) × ((Nat → Int32) × (Nat → Int32) × (Nat → Int32) × (Nat → Int32) × (Nat → Int32) × (Nat → Int32) × (Nat → Int32)) × (Unit))) (fun u => some (.int (iZ u.1.1))) (fun u => (M0 u.2.2.1.1) ∧ (∀ e : Int, 520 ≤ e → e < 4450 → gz u.2.2.1.1 e = gz Af e) ∧ (0 ≤ u.1.2.2.1 ∧ u.1.2.2.1 ≤ 65535) ∧ (rgI u.2.2.1.2.2.2.2.1 0 1000000 120) ∧ (∀ e : Int, 0 ≤ e → e < 520 → gz u.2.2.1.1 e = gz Af e) ∧ (okZ u.2.2.1.2.2.2.2.2.1) ∧ (((((0 ≤ x1 ∧ x1 ≤ 9999) ∧ (1 ≤ x2 ∧ x2 ≤ 10) ∧ x1 + x2 - 1 ≤ 9999) ∧ ¬ gz Af 5 = -1) ∧ (u.1.1 : Int) = 1 ∧ ∃ S9 : Int, mnR (eR Af) Pg (rL Af) x1 (Int.toNat (x2)) (rQ Zf) 0 (rQ u.2.2.1.2.2.2.2.2.1) S9) ∨ (¬ (((0 ≤ x1 ∧ x1 ≤ 9999) ∧ (1 ≤ x2 ∧ x2 ≤ 10) ∧ x1 + x2 - 1 ≤ 9999) ∧ ¬ gz Af 5 = -1) ∧ (u.1.1 : Int) = 0 ∧ u.2.2.1.2.2.2.2.2.1 = Zf))) (fun u => [(hm, .inr (12, [.ref Ma, .ref Mn, .int (iZ u.1.2.1), .long u.2.1.2.1, .long u.2.1.2.2, .ref Ms, .ref My, .ref Mt, .ref Mp, .ref Mx, .int (iZ Mtd), .int (iZ Msz), .int (iZ Mtk), .int (iZ Mfr), .int (iZ Men), .int (iZ Mva), .int (iZ Mfk), .int (iZ Mfp), .int (iZ Mfs), .int (iZ Mse), .int (iZ Mlt), .ref Mo, .int (iZ Mdp), .int (iZ Mct), .ref Mk, .ref Ml, .ref Mb, .ref Mh, .ref Mc, .int (iZ u.1.2.2.1), .int (iZ u.1.2.2.2), .ref Mz, .ref Mr, .ref Mq, .int (iZ Mit), .int (iZ Mmk)])), (Ma, .inl (k 1, 5340, .inl u.2.2.1.1)), (Mk, .inl (k 1, 6, .inl u.2.2.1.2.1)), (Ml, .inl (k 1, 6, .inl u.2.2.1.2.2.1)), (Mb, .inl (k 1, 6, .inl u.2.2.1.2.2.2.1)), (Mh, .inl (k 1, 120, .inl u.2.2.1.2.2.2.2.1)), (Mz, .inl (k 1, 80, .inl u.2.2.1.2.2.2.2.2.1)), (Mr, .inl (k 1, 5, .inl u.2.2.1.2.2.2.2.2.2))]) D A) [.ref hm, .int (iZ x1), .int (iZ x2)].toArray s 0 0 A) (F0 m 132 ls []) := by
                        intro fu
                        induction fu with
                        | zero => intro v6_132 Afq132 H locs ls hμ132 hi132 hcb1 hcb2 hP hD hS hl; exact absurd hμ132 (by omega)
                        | succ fu ih132 =>
                          intro v6_132 Afq132 H locs ls hμ132 hi132 hcb1 hcb2 hP hD hS hl
                          refine lv_iload hx hb dX12_mean_132 (lv_at hl 0 rfl) ?_
                          refine lv_sipush (v := iZ 520) hx hb dX12_mean_134 sip_520 ?_
                          refine lv_icmp_ge (tgt := 164) hx hb dX12_mean_137 rfl (fun c_38 => ?_) (fun c_38 => ?_)
                          ·
                            have c_38 := (zle (x := iZ 520) (y := iZ v6_132) rfl rfl wn_520 ⟨by omega, by omega⟩).mp c_38
                            obtain rfl : v6_132 = 520 := by omega
                            have hMb : M0 Afq132 := M0.back hM (fun e h1 h2 => by have := hcb1 e h1 h2; have := hO1 e h1 h2; have := p_23.1 (4450 + e) (by omega); omega) (fun e h1 h2 => by have := hcb2 e h1; have := hO2 e h1 h2; have := p_23.1 e (by omega); omega)
                            have hz0 : gz Afq132 0 = gz Af 0 := by have := hcb1 0 (by omega) (by omega); have := hO1 0 (by omega) (by omega); have := p_23.1 (4450 + 0) (by omega); omega
                            refine lv_iinc (v := iZ (v5_94 + 1)) (lv' := [(5, .int (iZ (v5_94 + 1))), (6, .int (iZ 520)), (3, .long y_37), (0, .ref hm), (1, .int (iZ x1)), (2, .int (iZ x2))]) hx hb dX12_mean_164 hl (k := 2) rfl (iZ_add v5_94 1) (by decide) rfl (fun ls hl => ?_)
                            refine lv_goto (tgt := 94) hx hb dX12_mean_167 rfl ?_
                            exact ih94  y_37 (v5_94 + 1) u_21.1.2.1 u_21.1.2.2 Afq132 u_21.2.2.1.2.1 u_21.2.2.1.2.2.1 u_21.2.2.1.2.2.2.1 u_21.2.2.1.2.2.2.2.1 u_21.2.2.1.2.2.2.2.2.1 u_21.2.2.1.2.2.2.2.2.2 _ _ _ (by omega) (show (0 ≤ (v5_94 + 1) ∧ (v5_94 + 1) ≤ (x2) + 1) from ⟨by omega, by omega⟩) (show M0 Afq132 from hMb) (show ∀ e : Int, 0 ≤ e → e < 520 → gz Afq132 (4450 + e) = gz Af e from (fun e h1 h2 => by have := hcb2 (4450 + e) (by omega); have := hO1 e h1 h2; have := p_23.1 (4450 + e) (by omega); omega)) (show ∀ e : Int, 520 ≤ e → e < 4450 → gz Afq132 e = gz Af e from (fun e h1 h2 => by have := hcb2 e (by omega); have := hO2 e h1 h2; have := p_23.1 e (by omega); omega)) (show 0 ≤ u_21.1.2.1 ∧ u_21.1.2.1 ≤ 65535 from ⟨by omega, by omega⟩) (show gz Afq132 0 = gz Af 0 from (by omega)) (show rgI u_21.2.2.1.2.2.2.2.1 0 1000000 120 from p_25) (show ∀ e : Int, 0 ≤ e → e < 520 → gz Afq132 e = gz Af e from (fun e h1 h2 => by have := hcb1 e h1 h2; have := hO1 e h1 h2; have := p_23.1 (4450 + e) (by omega); omega)) (show (v5_94 + 1) ≤ x2 from (by omega)) (show okZ u_21.2.2.1.2.2.2.2.2.1 from p_28) (show ∃ S9 : Int, mnR (eR Af) Pg (rL Af) x1 (Int.toNat ((v5_94 + 1))) (rQ Zf) 0 (rQ u_21.2.2.1.2.2.2.2.2.1) S9 from (by obtain ⟨S9, m9⟩ := hmn9; obtain ⟨r9, i9⟩ := p_27; rw [hrl, her] at i9; rw [show Int.toNat (v5_94 + 1) = Int.toNat v5_94 + 1 by omega]; exact ⟨_, _, S9, _, m9, (by rw [show ((Int.toNat v5_94 : Nat) : Int) = v5_94 by omega]; exact i9), rfl, rfl⟩)) (hP.sub [0, 1, 2, 3, 4, 5, 6, 7] rfl) (hD.sub [0, 1, 2, 3, 4, 5, 6, 7] rfl rfl) hS (lv_sub hl [0, 2, 3, 4, 5] rfl)
                          ·
                            have c_38 := mt (zle (x := iZ 520) (y := iZ v6_132) rfl rfl wn_520 ⟨by omega, by omega⟩).mpr c_38
                            refine lv_aload_n hx hb dX12_mean_140 rfl (lv_at hl 3 rfl) ?_
                            refine va_get (D := D) (ci := 12) (v := .ref Ma) (C := RX12) (T := TX12) (N := 36) hx hb hts iX12 hown hK hP 0 rfl rfl 0 (bl rfl) (hts _ qf_X12_7) (fun _ h => h) rfl dX12_mean_141 ?_
                            refine lv_iload hx hb dX12_mean_144 (lv_at hl 0 rfl) ?_
                            refine lv_aload_n hx hb dX12_mean_146 rfl (lv_at hl 3 rfl) ?_
                            refine va_get (D := D) (ci := 12) (v := .ref Ma) (C := RX12) (T := TX12) (N := 36) hx hb hts iX12 hown hK hP 0 rfl rfl 0 (bl rfl) (hts _ qf_X12_7) (fun _ h => h) rfl dX12_mean_147 ?_
                            refine lv_sipush (v := iZ 4450) hx hb dX12_mean_150 sip_4450 ?_
                            refine lv_iload hx hb dX12_mean_153 (lv_at hl 0 rfl) ?_
                            refine lv_iadd hx hb dX12_mean_155 ?_
                            refine lv_topi (fun x_39 ex_39 => ?_)
                            obtain rfl : x_39 = iZ (4450 + v6_132) := ex_39.trans (iZ_add 4450 v6_132)
                            refine va_iald hx hb hK hP 1 1 rfl rfl (zin (e := (4450 + v6_132)) (n := 5340) ⟨by omega, by omega⟩ (bl rfl)) dX12_mean_156 ?_
                            refine lv_topi (fun x_40 ex_40 => ?_)
                            obtain rfl : x_40 = iZ (gz Afq132 (4450 + v6_132)) := ex_40.trans (gz_eq ⟨by omega, by omega⟩)
                            have h_41 := gz_rg Afq132 (4450 + v6_132)
                            refine va_iast hx hb hK hP hD hS 1 1 rfl rfl (zin (e := v6_132) (n := 5340) ⟨by omega, by omega⟩ (bl rfl)) dX12_mean_157 (fun H locs hP hD hS => ?_)
                            obtain ⟨f_42, hf_42⟩ : ∃ gg9, gg9 = upd Afq132 (iZ v6_132).toNatClampNeg (iZ (gz Afq132 (4450 + v6_132))) := ⟨_, rfl⟩
                            rw [← hf_42] at hP hD
                            refine lv_iinc (v := iZ (v6_132 + 1)) (lv' := [(6, .int (iZ (v6_132 + 1))), (3, .long y_37), (5, .int (iZ v5_94)), (0, .ref hm), (1, .int (iZ x1)), (2, .int (iZ x2))]) hx hb dX12_mean_158 hl (k := 0) rfl (iZ_add v6_132 1) (by decide) rfl (fun ls hl => ?_)
                            refine lv_goto (tgt := 132) hx hb dX12_mean_161 rfl ?_
                            exact ih132  (v6_132 + 1) f_42 _ _ _ (by omega) (show (0 ≤ (v6_132 + 1) ∧ (v6_132 + 1) ≤ (519) + 1) from ⟨by omega, by omega⟩) (show ∀ e : Int, 0 ≤ e → e < (v6_132 + 1) → gz f_42 e = gz u_21.2.2.1.1 (4450 + e) from (fun e h1 h2 => by have c1 := gz_upc (j := e) hf_42 ⟨by omega, by omega⟩ ⟨by omega, by omega⟩ (by omega); rcases Int.lt_or_eq_of_le (show e ≤ v6_132 by omega) with h3 | h3; have := hcb1 e h1 h3; omega; rw [h3] at c1 ⊢; have c2 := hcb2 (4450 + v6_132) (by omega); omega)) (show ∀ e : Int, 520 ≤ e → gz f_42 e = gz u_21.2.2.1.1 e from (fun e h1 => by have c1 := gz_upc (j := e) hf_42 ⟨by omega, by omega⟩ ⟨by omega, by omega⟩ (by omega); have := hcb2 e h1; omega)) (hP.sub [0, 1, 2, 3, 4, 5, 6, 7] rfl) (hD.sub [0, 1, 2, 3, 4, 5, 6, 7] rfl rfl) hS (lv_sub hl [0, 1, 2, 3, 4, 5] rfl)
                      exact HL132 523 0 u_21.2.2.1.1 _ _ _ (by omega) (show (0 ≤ 0 ∧ 0 ≤ (519) + 1) from ⟨by omega, by omega⟩) (show ∀ e : Int, 0 ≤ e → e < 0 → gz u_21.2.2.1.1 e = gz u_21.2.2.1.1 (4450 + e) from (fun e h1 h2 => absurd h1 (by omega))) (show ∀ e : Int, 520 ≤ e → gz u_21.2.2.1.1 e = gz u_21.2.2.1.1 e from (fun e h1 => rfl)) (hP.sub [0, 1, 2, 3, 4, 5, 6, 7] rfl) (hD.sub [0, 1, 2, 3, 4, 5, 6, 7] rfl rfl) hS (lv_sub hl [0, 1, 2, 3, 4, 5] rfl)
                exact HL94 14 0 0 Mdr Mrs Afq60 Kf Lf Bf Hf Zf Rf _ _ _ (by omega) (show (0 ≤ 0 ∧ 0 ≤ (x2) + 1) from ⟨by omega, by omega⟩) (show M0 Afq60 from hMw) (show ∀ e : Int, 0 ≤ e → e < 520 → gz Afq60 (4450 + e) = gz Af e from (fun e h1 h2 => hw1 e h1 h2)) (show ∀ e : Int, 520 ≤ e → e < 4450 → gz Afq60 e = gz Af e from (fun e h1 h2 => hk1 e (by omega) h2)) (show 0 ≤ Mdr ∧ Mdr ≤ 65535 from ⟨by omega, by omega⟩) (show gz Afq60 0 = gz Af 0 from (by have := hk1 0 (by omega) (by omega); omega)) (show rgI Hf 0 1000000 120 from rgH) (show ∀ e : Int, 0 ≤ e → e < 520 → gz Afq60 e = gz Af e from (fun e h1 h2 => hk1 e h1 (by omega))) (show 0 ≤ x2 from (by omega)) (show okZ Zf from hzq) (show ∃ S9 : Int, mnR (eR Af) Pg (rL Af) x1 (Int.toNat (0)) (rQ Zf) 0 (rQ Zf) S9 from ⟨0, rfl, rfl⟩) (hP.sub [0, 1, 2, 3, 4, 5, 6, 7] rfl) (hD.sub [0, 1, 2, 3, 4, 5, 6, 7] rfl rfl) hS (lv_sub hl [0, 1, 2, 3, 4] rfl)
              ·
                have c_17 := mt (zle (x := iZ 520) (y := iZ v3_60) rfl rfl wn_520 ⟨by omega, by omega⟩).mpr c_17
                refine lv_aload_n hx hb dX12_mean_67 rfl (lv_at hl 1 rfl) ?_
                refine va_get (D := D) (ci := 12) (v := .ref Ma) (C := RX12) (T := TX12) (N := 36) hx hb hts iX12 hown hK hP 0 rfl rfl 0 (bl rfl) (hts _ qf_X12_7) (fun _ h => h) rfl dX12_mean_68 ?_
                refine lv_sipush (v := iZ 4450) hx hb dX12_mean_71 sip_4450 ?_
                refine lv_iload_n hx hb dX12_mean_74 rfl (lv_at hl 0 rfl) ?_
                refine lv_iadd hx hb dX12_mean_75 ?_
                refine lv_topi (fun x_43 ex_43 => ?_)
                obtain rfl : x_43 = iZ (4450 + v3_60) := ex_43.trans (iZ_add 4450 v3_60)
                refine lv_aload_n hx hb dX12_mean_76 rfl (lv_at hl 1 rfl) ?_
                refine va_get (D := D) (ci := 12) (v := .ref Ma) (C := RX12) (T := TX12) (N := 36) hx hb hts iX12 hown hK hP 0 rfl rfl 0 (bl rfl) (hts _ qf_X12_7) (fun _ h => h) rfl dX12_mean_77 ?_
                refine lv_iload_n hx hb dX12_mean_80 rfl (lv_at hl 0 rfl) ?_
                refine va_iald hx hb hK hP 1 1 rfl rfl (zin (e := v3_60) (n := 5340) ⟨by omega, by omega⟩ (bl rfl)) dX12_mean_81 ?_
                refine lv_topi (fun x_44 ex_44 => ?_)
                obtain rfl : x_44 = iZ (gz Afq60 v3_60) := ex_44.trans (gz_eq ⟨by omega, by omega⟩)
                have h_45 := gz_rg Afq60 v3_60
                refine va_iast hx hb hK hP hD hS 1 1 rfl rfl (zin (e := (4450 + v3_60)) (n := 5340) ⟨by omega, by omega⟩ (bl rfl)) dX12_mean_82 (fun H locs hP hD hS => ?_)
                obtain ⟨f_46, hf_46⟩ : ∃ gg9, gg9 = upd Afq60 (iZ (4450 + v3_60)).toNatClampNeg (iZ (gz Afq60 v3_60)) := ⟨_, rfl⟩
                rw [← hf_46] at hP hD
                refine lv_iinc (v := iZ (v3_60 + 1)) (lv' := [(3, .int (iZ (v3_60 + 1))), (0, .ref hm), (1, .int (iZ x1)), (2, .int (iZ x2))]) hx hb dX12_mean_83 hl (k := 0) rfl (iZ_add v3_60 1) (by decide) rfl (fun ls hl => ?_)
                refine lv_goto (tgt := 60) hx hb dX12_mean_86 rfl ?_
                exact ih60  (v3_60 + 1) f_46 _ _ _ (by omega) (show (0 ≤ (v3_60 + 1) ∧ (v3_60 + 1) ≤ (519) + 1) from ⟨by omega, by omega⟩) (show ∀ e : Int, 0 ≤ e → e < (v3_60 + 1) → gz f_46 (4450 + e) = gz Af e from (fun e h1 h2 => by have c1 := gz_upc (j := 4450 + e) hf_46 ⟨by omega, by omega⟩ ⟨by omega, by omega⟩ (by omega); rcases Int.lt_or_eq_of_le (show e ≤ v3_60 by omega) with h3 | h3; have := hw1 e h1 h3; omega; rw [h3] at c1 ⊢; have c2 := hk1 v3_60 (by omega) (by omega); omega)) (show ∀ e : Int, 0 ≤ e → e < 4450 → gz f_46 e = gz Af e from (fun e h1 h2 => by have c1 := gz_upc (j := e) hf_46 ⟨by omega, by omega⟩ ⟨by omega, by omega⟩ (by omega); have := hk1 e h1 h2; omega)) (hP.sub [0, 1, 2, 3, 4, 5, 6, 7] rfl) (hD.sub [0, 1, 2, 3, 4, 5, 6, 7] rfl rfl) hS (lv_sub hl [0, 1, 2, 3] rfl)
          exact HL60 523 0 Af _ _ _ (by omega) (show (0 ≤ 0 ∧ 0 ≤ (519) + 1) from ⟨by omega, by omega⟩) (show ∀ e : Int, 0 ≤ e → e < 0 → gz Af (4450 + e) = gz Af e from (fun e h1 h2 => absurd h1 (by omega))) (show ∀ e : Int, 0 ≤ e → e < 4450 → gz Af e = gz Af e from (fun e h1 h2 => rfl)) (hP.sub [0, 1, 2, 3, 4, 5, 6, 7] rfl) (hD.sub [0, 1, 2, 3, 4, 5, 6, 7] rfl rfl) hS (lv_sub hl [0, 1, 2, 3] rfl)
        ·
          have c_16 := (zeq (x := iZ (gz Af 5)) (y := iZ (-1)) rfl rfl (gz_rg Af 5) wn_m1).mp c_16
          refine lv_aload_n hx hb dX12_mean_51 rfl (lv_at hl 0 rfl) ?_
          refine lv_bipush (v := iZ 6) hx hb dX12_mean_52 bip_6 ?_
          refine CWV (As := [.int (iZ 6)]) (rest := []) (wc := _) (wr := [(Ma, .inl (k 1, 5340, .inl Af)), (Mk, .inl (k 1, 6, .inl Kf)), (Ml, .inl (k 1, 6, .inl Lf)), (Mb, .inl (k 1, 6, .inl Bf)), (Mh, .inl (k 1, 120, .inl Hf)), (Mz, .inl (k 1, 80, .inl Zf)), (Mr, .inl (k 1, 5, .inl Rf))]) hx hb hml hown hts hKK hP hD hS hA (m_isN l D k hm Ma Mn Ms My Mt Mp Mx Mo Mk Ml Mb Mh Mc Mz Mr Mq Mst Mtd Msz Mtk Mfr Men Mva Mfk Mfp Mfs Mse Mlt Mdp Mct Mdr Mrs Mit Mmk Mtp Mbt 6 ⟨by omega, by omega⟩ (by omega)) ci_X12_is qm_X12_89 ⟨Nat.le_of_ble_eq_true rfl, Nat.le_of_ble_eq_true rfl⟩ ⟨Nat.le_of_ble_eq_true rfl, Nat.le_of_ble_eq_true rfl⟩ [0] [1, 2, 3, 4, 5, 6, 7] rfl rfl rfl rfl rfl (dj rfl) 0 rfl rfl rfl hl.1 rfl (Nat.le_of_ble_eq_true rfl) dX12_mean_54 (fun u_47 H locs hφ hP hD hS => ?_)
          refine W.eq (g2 := F0 m 57 ls [.int (iZ 0)]) rfl ?_
          exact EWz hx hb hr hlocks hS ((0, 6, Mdr, Mrs), (0, Mtp, Mbt), (Af, Kf, Lf, Bf, Hf, Zf, Rf), ()) rfl rfl ⟨(show M0 Af from hM), (show ∀ e : Int, 520 ≤ e → e < 4450 → gz Af e = gz Af e from (fun e h1 h2 => rfl)), (show 0 ≤ Mdr ∧ Mdr ≤ 65535 from (by omega)), (show rgI Hf 0 1000000 120 from rgH), (show ∀ e : Int, 0 ≤ e → e < 520 → gz Af e = gz Af e from (fun e h1 h2 => rfl)), (show okZ Zf from hzq), (show ((((0 ≤ x1 ∧ x1 ≤ 9999) ∧ (1 ≤ x2 ∧ x2 ≤ 10) ∧ x1 + x2 - 1 ≤ 9999) ∧ ¬ gz Af 5 = -1) ∧ (0 : Int) = 1 ∧ ∃ S9 : Int, mnR (eR Af) Pg (rL Af) x1 (Int.toNat (x2)) (rQ Zf) 0 (rQ Zf) S9) ∨ (¬ (((0 ≤ x1 ∧ x1 ≤ 9999) ∧ (1 ≤ x2 ∧ x2 ≤ 10) ∧ x1 + x2 - 1 ≤ 9999) ∧ ¬ gz Af 5 = -1) ∧ (0 : Int) = 0 ∧ Zf = Zf) from (Or.inr ⟨by omega, rfl, rfl⟩))⟩ (hP.sub [7, 0, 1, 2, 3, 4, 5, 6] rfl) (hD.sub [7, 0, 1, 2, 3, 4, 5, 6] rfl rfl) dX12_mean_57
      ·
        have c_13 := mt (zle (x := iZ ((x1 + x2) - 1)) (y := iZ 9999) rfl rfl ⟨by omega, by omega⟩ wn_9999).mpr c_13
        refine lv_aload_n hx hb dX12_mean_35 rfl (lv_at hl 0 rfl) ?_
        refine lv_iconst (v := iZ 1) hx hb dX12_mean_36 rfl ?_
        refine CWV (As := [.int (iZ 1)]) (rest := []) (wc := _) (wr := [(Ma, .inl (k 1, 5340, .inl Af)), (Mk, .inl (k 1, 6, .inl Kf)), (Ml, .inl (k 1, 6, .inl Lf)), (Mb, .inl (k 1, 6, .inl Bf)), (Mh, .inl (k 1, 120, .inl Hf)), (Mz, .inl (k 1, 80, .inl Zf)), (Mr, .inl (k 1, 5, .inl Rf))]) hx hb hml hown hts hKK hP hD hS hA (m_isN l D k hm Ma Mn Ms My Mt Mp Mx Mo Mk Ml Mb Mh Mc Mz Mr Mq Mst Mtd Msz Mtk Mfr Men Mva Mfk Mfp Mfs Mse Mlt Mdp Mct Mdr Mrs Mit Mmk Mtp Mbt 1 ⟨by omega, by omega⟩ (by omega)) ci_X12_is qm_X12_89 ⟨Nat.le_of_ble_eq_true rfl, Nat.le_of_ble_eq_true rfl⟩ ⟨Nat.le_of_ble_eq_true rfl, Nat.le_of_ble_eq_true rfl⟩ [0] [1, 2, 3, 4, 5, 6, 7] rfl rfl rfl rfl rfl (dj rfl) 0 rfl rfl rfl hl.1 rfl (Nat.le_of_ble_eq_true rfl) dX12_mean_37 (fun u_48 H locs hφ hP hD hS => ?_)
        refine W.eq (g2 := F0 m 40 ls [.int (iZ 0)]) rfl ?_
        exact EWz hx hb hr hlocks hS ((0, 1, Mdr, Mrs), (0, Mtp, Mbt), (Af, Kf, Lf, Bf, Hf, Zf, Rf), ()) rfl rfl ⟨(show M0 Af from hM), (show ∀ e : Int, 520 ≤ e → e < 4450 → gz Af e = gz Af e from (fun e h1 h2 => rfl)), (show 0 ≤ Mdr ∧ Mdr ≤ 65535 from (by omega)), (show rgI Hf 0 1000000 120 from rgH), (show ∀ e : Int, 0 ≤ e → e < 520 → gz Af e = gz Af e from (fun e h1 h2 => rfl)), (show okZ Zf from hzq), (show ((((0 ≤ x1 ∧ x1 ≤ 9999) ∧ (1 ≤ x2 ∧ x2 ≤ 10) ∧ x1 + x2 - 1 ≤ 9999) ∧ ¬ gz Af 5 = -1) ∧ (0 : Int) = 1 ∧ ∃ S9 : Int, mnR (eR Af) Pg (rL Af) x1 (Int.toNat (x2)) (rQ Zf) 0 (rQ Zf) S9) ∨ (¬ (((0 ≤ x1 ∧ x1 ≤ 9999) ∧ (1 ≤ x2 ∧ x2 ≤ 10) ∧ x1 + x2 - 1 ≤ 9999) ∧ ¬ gz Af 5 = -1) ∧ (0 : Int) = 0 ∧ Zf = Zf) from (Or.inr ⟨by omega, rfl, rfl⟩))⟩ (hP.sub [7, 0, 1, 2, 3, 4, 5, 6] rfl) (hD.sub [7, 0, 1, 2, 3, 4, 5, 6] rfl rfl) dX12_mean_40
    ·
      subst qz_6
      refine lv_if_eq (tgt := 35) hx hb dX12_mean_21 rfl (fun _ => ?_) (fun c => absurd (by decide) c)
      refine lv_aload_n hx hb dX12_mean_35 rfl (lv_at hl 0 rfl) ?_
      refine lv_iconst (v := iZ 1) hx hb dX12_mean_36 rfl ?_
      refine CWV (As := [.int (iZ 1)]) (rest := []) (wc := _) (wr := [(Ma, .inl (k 1, 5340, .inl Af)), (Mk, .inl (k 1, 6, .inl Kf)), (Ml, .inl (k 1, 6, .inl Lf)), (Mb, .inl (k 1, 6, .inl Bf)), (Mh, .inl (k 1, 120, .inl Hf)), (Mz, .inl (k 1, 80, .inl Zf)), (Mr, .inl (k 1, 5, .inl Rf))]) hx hb hml hown hts hKK hP hD hS hA (m_isN l D k hm Ma Mn Ms My Mt Mp Mx Mo Mk Ml Mb Mh Mc Mz Mr Mq Mst Mtd Msz Mtk Mfr Men Mva Mfk Mfp Mfs Mse Mlt Mdp Mct Mdr Mrs Mit Mmk Mtp Mbt 1 ⟨by omega, by omega⟩ (by omega)) ci_X12_is qm_X12_89 ⟨Nat.le_of_ble_eq_true rfl, Nat.le_of_ble_eq_true rfl⟩ ⟨Nat.le_of_ble_eq_true rfl, Nat.le_of_ble_eq_true rfl⟩ [0] [1, 2, 3, 4, 5, 6, 7] rfl rfl rfl rfl rfl (dj rfl) 0 rfl rfl rfl hl.1 rfl (Nat.le_of_ble_eq_true rfl) dX12_mean_37 (fun u_50 H locs hφ hP hD hS => ?_)
      refine W.eq (g2 := F0 m 40 ls [.int (iZ 0)]) rfl ?_
      exact EWz hx hb hr hlocks hS ((0, 1, Mdr, Mrs), (0, Mtp, Mbt), (Af, Kf, Lf, Bf, Hf, Zf, Rf), ()) rfl rfl ⟨(show M0 Af from hM), (show ∀ e : Int, 520 ≤ e → e < 4450 → gz Af e = gz Af e from (fun e h1 h2 => rfl)), (show 0 ≤ Mdr ∧ Mdr ≤ 65535 from (by omega)), (show rgI Hf 0 1000000 120 from rgH), (show ∀ e : Int, 0 ≤ e → e < 520 → gz Af e = gz Af e from (fun e h1 h2 => rfl)), (show okZ Zf from hzq), (show ((((0 ≤ x1 ∧ x1 ≤ 9999) ∧ (1 ≤ x2 ∧ x2 ≤ 10) ∧ x1 + x2 - 1 ≤ 9999) ∧ ¬ gz Af 5 = -1) ∧ (0 : Int) = 1 ∧ ∃ S9 : Int, mnR (eR Af) Pg (rL Af) x1 (Int.toNat (x2)) (rQ Zf) 0 (rQ Zf) S9) ∨ (¬ (((0 ≤ x1 ∧ x1 ≤ 9999) ∧ (1 ≤ x2 ∧ x2 ≤ 10) ∧ x1 + x2 - 1 ≤ 9999) ∧ ¬ gz Af 5 = -1) ∧ (0 : Int) = 0 ∧ Zf = Zf) from (Or.inr ⟨by omega, rfl, rfl⟩))⟩ (hP.sub [7, 0, 1, 2, 3, 4, 5, 6] rfl) (hD.sub [7, 0, 1, 2, 3, 4, 5, 6] rfl rfl) dX12_mean_40
  ·
    subst qz_1
    refine lv_if_eq (tgt := 35) hx hb dX12_mean_9 rfl (fun _ => ?_) (fun c => absurd (by decide) c)
    refine lv_aload_n hx hb dX12_mean_35 rfl (lv_at hl 0 rfl) ?_
    refine lv_iconst (v := iZ 1) hx hb dX12_mean_36 rfl ?_
    refine CWV (As := [.int (iZ 1)]) (rest := []) (wc := _) (wr := [(Ma, .inl (k 1, 5340, .inl Af)), (Mk, .inl (k 1, 6, .inl Kf)), (Ml, .inl (k 1, 6, .inl Lf)), (Mb, .inl (k 1, 6, .inl Bf)), (Mh, .inl (k 1, 120, .inl Hf)), (Mz, .inl (k 1, 80, .inl Zf)), (Mr, .inl (k 1, 5, .inl Rf))]) hx hb hml hown hts hKK hP hD hS hA (m_isN l D k hm Ma Mn Ms My Mt Mp Mx Mo Mk Ml Mb Mh Mc Mz Mr Mq Mst Mtd Msz Mtk Mfr Men Mva Mfk Mfp Mfs Mse Mlt Mdp Mct Mdr Mrs Mit Mmk Mtp Mbt 1 ⟨by omega, by omega⟩ (by omega)) ci_X12_is qm_X12_89 ⟨Nat.le_of_ble_eq_true rfl, Nat.le_of_ble_eq_true rfl⟩ ⟨Nat.le_of_ble_eq_true rfl, Nat.le_of_ble_eq_true rfl⟩ [0] [1, 2, 3, 4, 5, 6, 7] rfl rfl rfl rfl rfl (dj rfl) 0 rfl rfl rfl hl.1 rfl (Nat.le_of_ble_eq_true rfl) dX12_mean_37 (fun u_52 H locs hφ hP hD hS => ?_)
    refine W.eq (g2 := F0 m 40 ls [.int (iZ 0)]) rfl ?_
    exact EWz hx hb hr hlocks hS ((0, 1, Mdr, Mrs), (0, Mtp, Mbt), (Af, Kf, Lf, Bf, Hf, Zf, Rf), ()) rfl rfl ⟨(show M0 Af from hM), (show ∀ e : Int, 520 ≤ e → e < 4450 → gz Af e = gz Af e from (fun e h1 h2 => rfl)), (show 0 ≤ Mdr ∧ Mdr ≤ 65535 from (by omega)), (show rgI Hf 0 1000000 120 from rgH), (show ∀ e : Int, 0 ≤ e → e < 520 → gz Af e = gz Af e from (fun e h1 h2 => rfl)), (show okZ Zf from hzq), (show ((((0 ≤ x1 ∧ x1 ≤ 9999) ∧ (1 ≤ x2 ∧ x2 ≤ 10) ∧ x1 + x2 - 1 ≤ 9999) ∧ ¬ gz Af 5 = -1) ∧ (0 : Int) = 1 ∧ ∃ S9 : Int, mnR (eR Af) Pg (rL Af) x1 (Int.toNat (x2)) (rQ Zf) 0 (rQ Zf) S9) ∨ (¬ (((0 ≤ x1 ∧ x1 ≤ 9999) ∧ (1 ≤ x2 ∧ x2 ≤ 10) ∧ x1 + x2 - 1 ≤ 9999) ∧ ¬ gz Af 5 = -1) ∧ (0 : Int) = 0 ∧ Zf = Zf) from (Or.inr ⟨by omega, rfl, rfl⟩))⟩ (hP.sub [7, 0, 1, 2, 3, 4, 5, 6] rfl) (hD.sub [7, 0, 1, 2, 3, 4, 5, 6] rfl rfl) dX12_mean_40
end

section
section TWO
variable {n od wk x y z z2 : Int} {L L' : LS_} {A B : Nat → Int32} {e : EV_}
theorem ord_two (hL : L = rL A) (hn : gz A 0 = n) (ho : gz A 4 = od) (c : ((0 ≤ x ∧ x < n) ∧ ((od < 20 ∧ z = od ∧ L' = odF x L) ∨ (¬ od < 20 ∧ z = -1 ∧ L' = L))) ∨ (¬ (0 ≤ x ∧ x < n) ∧ z = -1 ∧ L' = L)) (r : ((0 ≤ x ∧ x < gz A 0) ∧ ((gz A 4 < 20 ∧ z2 = gz A 4 ∧ rL B = odF x (rL A)) ∨ (¬ gz A 4 < 20 ∧ z2 = -1 ∧ B = A))) ∨ (¬ (0 ≤ x ∧ x < gz A 0) ∧ z2 = -1 ∧ B = A)) : L' = rL B ∧ z = z2 := by
  subst hn ho hL
  rcases c with ⟨a, c⟩ | ⟨a, c1, c2⟩
  · rcases r with ⟨-, r⟩ | ⟨b, -⟩
    · rcases c with ⟨c1, c2, c3⟩ | ⟨c1, c2, c3⟩
      · rcases r with ⟨-, r2, r3⟩ | ⟨r1, -⟩
        · exact ⟨c3.trans r3.symm, c2.trans r2.symm⟩
        · exact absurd c1 r1
      · rcases r with ⟨r1, -⟩ | ⟨-, r2, r3⟩
        · exact absurd r1 c1
        · exact ⟨by rw [c3, r3], c2.trans r2.symm⟩
    · exact absurd a b
  · rcases r with ⟨b, -⟩ | ⟨-, r1, r2⟩
    · exact absurd b a
    · exact ⟨by rw [c2, r2], c1.trans r1.symm⟩
theorem pass_two {wk' : Int} (hL : L = rL A) (he : e = eR A) (hw : gz A 3 = wk) (hk : L'.1 = wk') (c : (((1 ≤ x ∧ x ≤ 99) ∧ wk + x ≤ 400) ∧ z = wk' ∧ L' = plF e x L) ∨ (¬ ((1 ≤ x ∧ x ≤ 99) ∧ wk + x ≤ 400) ∧ z = -1 ∧ L' = L)) (r : (((1 ≤ x ∧ x ≤ 99) ∧ gz A 3 + x ≤ 400) ∧ z2 = gz B 3 ∧ rL B = plF (eR A) x (rL A)) ∨ (¬ ((1 ≤ x ∧ x ≤ 99) ∧ gz A 3 + x ≤ 400) ∧ z2 = -1 ∧ B = A)) : L' = rL B ∧ z = z2 := by
  subst hw hL he
  rcases c with ⟨a, c1, c2⟩ | ⟨a, c1, c2⟩
  · rcases r with ⟨-, r1, r2⟩ | ⟨b, -⟩
    · have k : L' = rL B := c2.trans r2.symm
      exact ⟨k, by rw [c1, r1, ← hk, k]; rfl⟩
    · exact absurd a b
  · rcases r with ⟨b, -⟩ | ⟨-, r1, r2⟩
    · exact absurd b a
    · exact ⟨by rw [c2, r2], c1.trans r1.symm⟩
theorem wear_two (hL : L = rL A) (hn : gz A 0 = n) (c : (((0 ≤ x ∧ x < n) ∧ 0 ≤ y ∧ y ≤ 1) ∧ z = 1 ∧ L' = dsF x y L) ∨ (¬ ((0 ≤ x ∧ x < n) ∧ 0 ≤ y ∧ y ≤ 1) ∧ z = 0 ∧ L' = L)) (r : (((0 ≤ x ∧ x < gz A 0) ∧ 0 ≤ y ∧ y ≤ 1) ∧ z2 = 1 ∧ rL B = dsF x y (rL A)) ∨ (¬ ((0 ≤ x ∧ x < gz A 0) ∧ 0 ≤ y ∧ y ≤ 1) ∧ z2 = 0 ∧ B = A)) : L' = rL B ∧ z = z2 := by
  subst hn hL
  rcases c with ⟨a, c1, c2⟩ | ⟨a, c1, c2⟩
  · rcases r with ⟨-, r1, r2⟩ | ⟨b, -⟩
    · exact ⟨c2.trans r2.symm, c1.trans r1.symm⟩
    · exact absurd a b
  · rcases r with ⟨b, -⟩ | ⟨-, r1, r2⟩
    · exact absurd b a
    · exact ⟨by rw [c2, r2], c1.trans r1.symm⟩
end TWO
/-- two lives of both sides -/
theorem run_two {e e2 : EV_} {P : PR_} {L L2 L' L2' : LS_} {q q2 q' q2' : Int → Int} {s d st ms we tu o0 le d2 st2 ms2 we2 tu2 o2 le2 : Int} (he : e = e2) (hL : L = L2) (hq : q = q2) (c : ∃ r9 : Int, isRn_ (yS e P) (0, L, q, s, 0, 0, 0, 0, 0, 0) (r9, L', q', d, st, ms, we, tu, o0, le)) (r : ∃ r9 : Int, isRn_ (yS e2 P) (0, L2, q2, s, 0, 0, 0, 0, 0, 0) (r9, L2', q2', d2, st2, ms2, we2, tu2, o2, le2)) : L' = L2' ∧ q' = q2' ∧ st = st2 ∧ ms = ms2 ∧ we = we2 ∧ tu = tu2 ∧ o0 = o2 ∧ le = le2 := by
  subst he hL hq
  obtain ⟨a, c⟩ := c
  obtain ⟨b, r⟩ := r
  have k := isRn_eq c r
  injection k with k1 k
  injection k with k2 k
  injection k with k3 k
  injection k with k4 k
  injection k with k5 k
  injection k with k6 k
  injection k with k7 k
  injection k with k8 k
  injection k with k9 k
  exact ⟨k2, k3, k5, k6, k7, k8, k9, k⟩
theorem LFE_0 {A : Nat → Int32} (h : ∀ e : Int, 0 ≤ e → ¬ e = 5 → gz A e = 0) : LFE 0 0 0 0 (fun _ => 0) (fun _ => 0) (fun _ => 0) (fun _ => 0) (fun _ => 0) (fun _ => 0) A 0 := by
  refine ⟨?_, fun o r a b => absurd a (by omega)⟩
  have z : ∀ e : Int, gz (fun _ => 0) e = 0 := fun e => rfl
  exact cL_like (h 3 (by omega) (by omega)).symm (h 4 (by omega) (by omega)).symm (fun e a b => by
    rw [sh_gz A (by omega) a, h _ (by omega) (by omega)]; exact z e) (fun e a b => by rw [st2_gz A (by omega) a, h _ (by omega) (by omega)]; exact z e) (fun e a b => by rw [st2_gz A (by omega) a, h _ (by omega) (by omega)]; exact z e)
/-- a course begins -/
theorem LFE.begin {n ni wk od : Int} {f g wf gf sf kf A : Nat → Int32} (h1 : wk = 0) (h2 : od = 0) (h3 : gz A 3 = 0) (h4 : gz A 4 = 0) (h5 : gz wf 0 = gz A 118) : LFE n ni wk od f g wf gf sf kf A 0 := by
  subst h1 h2
  refine ⟨?_, fun o r a b => absurd a (by omega)⟩
  exact cL_like h3.symm h4.symm (fun e a b => by
    have z : e = 0 := by rw [show gz A (0 + 3) = gz A 3 from rfl, h3] at b; omega
    rw [z, sh_gz A (by omega) (by omega)]; exact h5) (fun e a b => by rw [show gz A (0 + 4) = gz A 4 from rfl, h4] at b; omega) (fun e a b => by rw [show gz A (0 + 4) = gz A 4 from rfl, h4] at b; omega)
/-- marks come back, all cases -/
theorem LFE.back0 {n ni lw wk od th yr n0 ni0 lw0 wk0 od0 th0 yr0 n1 ni1 lw1 wk1 od1 th1 yr1 n2 ni2 lw2 wk2 od2 th2 yr2 n' ni' lw' wk' od' th' yr' mk M : Int} {f g wf gf sf kf w a b d p f0 g0 wf0 gf0 sf0 kf0 w0 a0 b0 d0 p0 f1 g1 wf1 gf1 sf1 kf1 w1 a1 b1 d1 p1 f2 g2 wf2 gf2 sf2 kf2 w2 a2 b2 d2 p2 f' g' wf' gf' sf' kf' w' a' b' d' p' A B : Nat → Int32} (hm : 0 ≤ mk ∧ mk ≤ 3) (h : LFE n ni wk od f g wf gf sf kf A 0) (hY : YFE n th yr w a b d p A 0)
    (h0 : LFI 0 mk n0 ni0 wk0 od0 f0 g0 wf0 gf0 sf0 kf0 A 890) (y0 : YFI 0 mk n0 th0 yr0 w0 a0 b0 d0 p0 A 890)
    (h1 : LFI 1 mk n1 ni1 wk1 od1 f1 g1 wf1 gf1 sf1 kf1 A 1780) (y1 : YFI 1 mk n1 th1 yr1 w1 a1 b1 d1 p1 A 1780)
    (h2 : LFI 2 mk n2 ni2 wk2 od2 f2 g2 wf2 gf2 sf2 kf2 A 2670) (y2 : YFI 2 mk n2 th2 yr2 w2 a2 b2 d2 p2 A 2670)
    (c0 : mk = 1 → (n' = n0 ∧ ni' = ni0 ∧ lw' = lw0) ∧ CPY f' f0 36 ∧ CPY g' g0 32) (d0_ : mk = 1 → (wk' = wk0 ∧ od' = od0 ∧ th' = th0 ∧ yr' = yr0) ∧ CPY wf' wf0 (wk0 + 1) ∧ CPY gf' gf0 od0 ∧ CPY sf' sf0 od0 ∧ CPY kf' kf0 (od0 * 6) ∧ CPY w' w0 yr0 ∧ CPY a' a0 yr0 ∧ CPY b' b0 yr0 ∧ CPY d' d0 yr0 ∧ CPY p' p0 yr0)
    (c1 : mk = 2 → (n' = n1 ∧ ni' = ni1 ∧ lw' = lw1) ∧ CPY f' f1 36 ∧ CPY g' g1 32) (d1_ : mk = 2 → (wk' = wk1 ∧ od' = od1 ∧ th' = th1 ∧ yr' = yr1) ∧ CPY wf' wf1 (wk1 + 1) ∧ CPY gf' gf1 od1 ∧ CPY sf' sf1 od1 ∧ CPY kf' kf1 (od1 * 6) ∧ CPY w' w1 yr1 ∧ CPY a' a1 yr1 ∧ CPY b' b1 yr1 ∧ CPY d' d1 yr1 ∧ CPY p' p1 yr1)
    (c2 : mk = 3 → (n' = n2 ∧ ni' = ni2 ∧ lw' = lw2) ∧ CPY f' f2 36 ∧ CPY g' g2 32) (d2_ : mk = 3 → (wk' = wk2 ∧ od' = od2 ∧ th' = th2 ∧ yr' = yr2) ∧ CPY wf' wf2 (wk2 + 1) ∧ CPY gf' gf2 od2 ∧ CPY sf' sf2 od2 ∧ CPY kf' kf2 (od2 * 6) ∧ CPY w' w2 yr2 ∧ CPY a' a2 yr2 ∧ CPY b' b2 yr2 ∧ CPY d' d2 yr2 ∧ CPY p' p2 yr2)
    (cz : mk = 0 → (n' = n ∧ ni' = ni ∧ lw' = lw) ∧ f' = f ∧ g' = g) (dz : mk = 0 → (wk' = wk ∧ od' = od ∧ th' = th ∧ yr' = yr) ∧ wf' = wf ∧ gf' = gf ∧ sf' = sf ∧ kf' = kf ∧ w' = w ∧ a' = a ∧ b' = b ∧ d' = d ∧ p' = p)
    (hq : mk = M) (rf : (0 < M → (∀ e : Int, 0 ≤ e → e < 890 → gz B e = gz A (890 * M + e)) ∧ ∀ j : Int, 890 ≤ j → gz B j = gz A j) ∧ (¬ 0 < M → B = A))
    (hn0 : n0 ≤ 6) (hi0 : ni0 ≤ 8) (hw0 : 0 ≤ wk0 ∧ wk0 ≤ 400) (ho0 : 0 ≤ od0 ∧ od0 ≤ 20) (hn1 : n1 ≤ 6) (hi1 : ni1 ≤ 8) (hw1 : 0 ≤ wk1 ∧ wk1 ≤ 400) (ho1 : 0 ≤ od1 ∧ od1 ≤ 20) (hn2 : n2 ≤ 6) (hi2 : ni2 ≤ 8) (hw2 : 0 ≤ wk2 ∧ wk2 ≤ 400) (ho2 : 0 ≤ od2 ∧ od2 ≤ 20) : LFE n' ni' wk' od' f' g' wf' gf' sf' kf' B 0 ∧ YFE n' th' yr' w' a' b' d' p' B 0 := by
  subst hq
  rcases (show mk = 0 ∨ mk = 1 ∨ mk = 2 ∨ mk = 3 by omega) with q | q | q | q
  · obtain ⟨⟨e1, e2, -⟩, e3, e4⟩ := cz q
    obtain ⟨⟨g1, g2, g3, g4⟩, g5, g6, g7, g8, g9, k1, k2, k3, k4⟩ := dz q
    subst e1 e2 e3 e4 g1 g2 g3 g4 g5 g6 g7 g8 g9 k1 k2 k3 k4
    rw [rf.2 (by omega)]
    exact ⟨h, hY⟩
  · exact LFE.bk (M := 1) (h0 (by omega)) (y0 (by omega)) (c0 q) (d0_ q) (fun e x y => by have := (rf.1 (by omega)).1 e x y; rw [q] at this; exact this) (by omega) hn0 hi0 hw0 ho0
  · exact LFE.bk (M := 2) (h1 (by omega)) (y1 (by omega)) (c1 q) (d1_ q) (fun e x y => by have := (rf.1 (by omega)).1 e x y; rw [q] at this; exact this) (by omega) hn1 hi1 hw1 ho1
  · exact LFE.bk (M := 3) (h2 (by omega)) (y2 (by omega)) (c2 q) (d2_ q) (fun e x y => by have := (rf.1 (by omega)).1 e x y; rw [q] at this; exact this) (by omega) hn2 hi2 hw2 ho2
/-- YEARS that both sides read -/
theorem YFE.years {n th ys yr th' ys' yr' x t u : Int} {w a b c p w' a' b' c' p' A B : Nat → Int32} {T N : Int → Int} {A1 A4 A5 A6 B1 B4 B5 B6 : Prop} {Z1 Z2 : YS_ → Prop} {A2 A3 B2 B3 : Int × Int → Prop} {R : (Int × Int) ⊕ YS_} (hY : YFE n th yr w a b c p A 0) (hu : t = u) (hR : (0 ≤ x ∧ x ≤ t ∧ x ≤ 300) → R = xYrs T N n)
    (cc : ((0 ≤ x ∧ x ≤ t ∧ x ≤ 300) ∧ ∃ s9 : YS_, R = .inr s9 ∧ (YV_ n s9 ∧ s9.2.2.1 = 0) ∧ yCM w' a' b' c' p' yr' (pOf s9) ∧ th' = 1 ∧ Z1 s9) ∨ ((0 ≤ x ∧ x ≤ t ∧ x ≤ 300) ∧ ∃ e9 : Int × Int, R = .inl e9 ∧ A1 ∧ A2 e9 ∧ A3 e9 ∧ th' = th ∧ ys' = ys ∧ yr' = yr ∧ w' = w ∧ a' = a ∧ b' = b ∧ c' = c ∧ p' = p) ∨ (¬ (0 ≤ x ∧ x ≤ t ∧ x ≤ 300) ∧ A4 ∧ A5 ∧ A6 ∧ th' = th ∧ ys' = ys ∧ yr' = yr ∧ w' = w ∧ a' = a ∧ b' = b ∧ c' = c ∧ p' = p))
    (rr : ((0 ≤ x ∧ x ≤ u ∧ x ≤ 300) ∧ ∃ s9 : YS_, xYrs T N n = .inr s9 ∧ (YV_ n s9 ∧ s9.2.2.1 = 0) ∧ yRM B 0 (pOf s9) ∧ Z2 s9) ∨ ((0 ≤ x ∧ x ≤ u ∧ x ≤ 300) ∧ ∃ e9 : Int × Int, xYrs T N n = .inl e9 ∧ B1 ∧ B2 e9 ∧ B3 e9 ∧ ∀ e : Int, 0 ≤ e → e < 890 → gz B e = gz A e) ∨ (¬ (0 ≤ x ∧ x ≤ u ∧ x ≤ 300) ∧ B4 ∧ B5 ∧ B6 ∧ ∀ e : Int, 0 ≤ e → e < 890 → gz B e = gz A e)) : YFE n th' yr' w' a' b' c' p' B 0 := by
  subst hu
  have same : (th' = th ∧ ys' = ys ∧ yr' = yr ∧ w' = w ∧ a' = a ∧ b' = b ∧ c' = c ∧ p' = p) → (∀ e : Int, 0 ≤ e → e < 890 → gz B e = gz A e) → YFE n th' yr' w' a' b' c' p' B 0 := fun h k => by
    obtain ⟨h1, -, h3, h4, h5, h6, h7, h8⟩ := h
    subst h1 h3 h4 h5 h6 h7 h8
    exact hY.keep (fun e x y => k (0 + e) (by omega) (by omega))
  rcases cc with ⟨ok, s, c1, ⟨c2, c3⟩, c4, c5, -⟩ | ⟨ok, e, c1, -, -, -, c2⟩ | ⟨ok, -, -, -, c2⟩
  · rcases rr with ⟨-, s2, r1, -, r2, -⟩ | ⟨-, e, r1, -⟩ | ⟨b, -⟩
    · have k : s2 = s := by
        rw [hR ok, r1] at c1
        injection c1
      subst k
      exact Or.inr ⟨c5, pOf s2, okR_of c2 c3, nsP_of r1 c3, r2, c4⟩
    · rw [hR ok, r1] at c1
      exact absurd c1 (by intro z; injection z)
    · exact absurd ok b
  · rcases rr with ⟨-, s2, r1, -⟩ | ⟨-, e2, r1, -, -, -, r2⟩ | ⟨b, -⟩
    · rw [hR ok, r1] at c1
      exact absurd c1 (by intro z; injection z)
    · exact same c2 r2
    · exact absurd ok b
  · rcases rr with ⟨b, -⟩ | ⟨b, -⟩ | ⟨-, -, -, -, r2⟩
    · exact absurd b ok
    · exact absurd b ok
    · exact same c2 r2
/-- a life of both sides, as it is asked for -/
theorem live_two {e : EV_} {P : PR_} {L L' : LS_} {x th z z2 ev ev' it it' d st ms we tu o0 le d2 st2 : Int} {rof rof' Zf Zf' lf lf' Qf Qf' Rf A B : Nat → Int32} (hL : L = rL A) (hq : cQ rof = rQ Zf) (he : e = eR A) (ht : th = 1 ↔ ¬ gz A 5 = -1)
    (c : (((0 ≤ x ∧ x ≤ 9999) ∧ th = 1) ∧ z = st ∧ ev' = 1 ∧ (gz lf' 0 = (iZ ms).toInt ∧ gz lf' 1 = (iZ we).toInt ∧ gz lf' 2 = (iZ tu).toInt ∧ gz lf' 3 = (iZ o0).toInt ∧ gz lf' 4 = (iZ le).toInt) ∧ ∃ r9 : Int, isRn_ (yS e P) (0, L, cQ rof, x, 0, 0, 0, 0, 0, 0) (r9, L', cQ rof', d, st, ms, we, tu, o0, le)) ∨ (¬ ((0 ≤ x ∧ x ≤ 9999) ∧ th = 1) ∧ z = -1 ∧ ev' = ev ∧ lf' = lf ∧ L' = L ∧ rof' = rof))
    (r : (((0 ≤ x ∧ x ≤ 9999) ∧ ¬ gz A 5 = -1) ∧ z2 = st2 ∧ it' = 1 ∧ (∀ j : Int, 0 ≤ j → j < 5 → gz Qf' j = gz Rf j) ∧ (∀ j : Int, 0 ≤ j → j < 5 → 0 ≤ gz Rf j ∧ gz Rf j ≤ 30000) ∧ ∃ r9 : Int, isRn_ (yS (eR A) P) (0, rL A, rQ Zf, x, 0, 0, 0, 0, 0, 0) (r9, rL B, rQ Zf', d2, st2, gz Rf 0, gz Rf 1, gz Rf 2, gz Rf 3, gz Rf 4)) ∨ (¬ ((0 ≤ x ∧ x ≤ 9999) ∧ ¬ gz A 5 = -1) ∧ z2 = -1 ∧ it' = it ∧ Qf' = Qf ∧ B = A ∧ Zf' = Zf)) : (L' = rL B ∧ cQ rof' = rQ Zf' ∧ z = z2) ∧ (ev = it → (∀ j : Int, 0 ≤ j → j < 5 → gz lf j = gz Qf j) → ev' = it' ∧ ∀ j : Int, 0 ≤ j → j < 5 → gz lf' j = gz Qf' j) := by
  rcases c with ⟨⟨a1, a2⟩, c1, c2, ⟨l0, l1, l2, l3, l4⟩, c3⟩ | ⟨a, c1, c2, c3, c4, c5⟩
  · rcases r with ⟨-, r1, r2, r3, r4, r5⟩ | ⟨b, -⟩
    · obtain ⟨k1, k2, k3, k4, k5, k6, k7, k8⟩ := run_two he hL hq c3 r5
      refine ⟨⟨k1, k2, by rw [c1, r1, k3]⟩, fun _ _ => ⟨c2.trans r2.symm, fun j p q => ?_⟩⟩
      have tI : ∀ v : Int, 0 ≤ v → v ≤ 30000 → (iZ v).toInt = v := fun v h1 h2 => iZ_ti ⟨by omega, by omega⟩
      have b0 := r4 0 (by omega) (by omega)
      have b1 := r4 1 (by omega) (by omega)
      have b2 := r4 2 (by omega) (by omega)
      have b3 := r4 3 (by omega) (by omega)
      have b4 := r4 4 (by omega) (by omega)
      rw [r3 j p q]
      rcases (show j = 0 ∨ j = 1 ∨ j = 2 ∨ j = 3 ∨ j = 4 by omega) with e | e | e | e | e
      · rw [e, l0, k4, tI _ b0.1 b0.2]
      · rw [e, l1, k5, tI _ b1.1 b1.2]
      · rw [e, l2, k6, tI _ b2.1 b2.2]
      · rw [e, l3, k7, tI _ b3.1 b3.2]
      · rw [e, l4, k8, tI _ b4.1 b4.2]
    · exact absurd ⟨a1, ht.mp a2⟩ b
  · rcases r with ⟨⟨b1, b2⟩, -⟩ | ⟨-, r1, r2, r3, r4, r5⟩
    · exact absurd ⟨b1, ht.mpr b2⟩ a
    · exact ⟨⟨by rw [c4, hL, r4], by rw [c5, r5]; exact hq, c1.trans r1.symm⟩, fun h1 h2 => ⟨by rw [c2, r2]; exact h1, fun j p q => by rw [c3, r3]; exact h2 j p q⟩⟩
/-- mean of both sides -/
theorem mean_two {e : EV_} {P : PR_} {L L' : LS_} {x y th z z2 : Int} {rof rof' Zf Zf' A B : Nat → Int32} (hL : L = rL A) (hq : cQ rof = rQ Zf) (he : e = eR A) (ht : th = 1 ↔ ¬ gz A 5 = -1) (hw : 0 ≤ gz A 3 ∧ gz A 3 ≤ 400) (ho : 0 ≤ gz A 4 ∧ gz A 4 ≤ 20)
    (c : ((((0 ≤ x ∧ x ≤ 9999) ∧ (1 ≤ y ∧ y ≤ 10) ∧ x + y - 1 ≤ 9999) ∧ th = 1) ∧ z = 1 ∧ L' = L ∧ ∃ S9 : Int, mnR e P L x y.toNat (cQ rof) 0 (cQ rof') S9) ∨ (¬ (((0 ≤ x ∧ x ≤ 9999) ∧ (1 ≤ y ∧ y ≤ 10) ∧ x + y - 1 ≤ 9999) ∧ th = 1) ∧ z = 0 ∧ L' = L ∧ rof' = rof))
    (r : ((((0 ≤ x ∧ x ≤ 9999) ∧ (1 ≤ y ∧ y ≤ 10) ∧ x + y - 1 ≤ 9999) ∧ ¬ gz A 5 = -1) ∧ z2 = 1 ∧ ∃ S9 : Int, mnR (eR A) P (rL A) x y.toNat (rQ Zf) 0 (rQ Zf') S9) ∨ (¬ (((0 ≤ x ∧ x ≤ 9999) ∧ (1 ≤ y ∧ y ≤ 10) ∧ x + y - 1 ≤ 9999) ∧ ¬ gz A 5 = -1) ∧ z2 = 0 ∧ Zf' = Zf)) (k : ∀ e : Int, 0 ≤ e → e < 520 → gz B e = gz A e) : L' = rL B ∧ cQ rof' = rQ Zf' ∧ z = z2 := by
  have kL : rL B = rL A := rL_like hw ho (fun e a b => k e (by omega) b)
  rw [kL]
  subst hL he
  rcases c with ⟨⟨a1, a2⟩, c1, c2, S, c3⟩ | ⟨a, c1, c2, c3⟩
  · rcases r with ⟨-, r1, T, r2⟩ | ⟨b, -⟩
    · rw [hq] at c3
      exact ⟨c2, (mnR_eq _ c3 r2).1, c1.trans r1.symm⟩
    · exact absurd ⟨a1, ht.mp a2⟩ b
  · rcases r with ⟨⟨b1, b2⟩, -⟩ | ⟨-, r1, r2⟩
    · exact absurd ⟨b1, ht.mpr b2⟩ a
    · exact ⟨c2, by rw [c3, r2]; exact hq, c1.trans r1.symm⟩
/-- a sky that both sides read: course and rows begin -/
theorem LFE.sky {n ni lw wk od th yr n' ni' lw' wk' od' th' yr' x t u : Int} {f g wf gf sf kf f' g' wf' gf' sf' kf' w a b c p w' a' b' c' p' A B : Nat → Int32} {X2 : Prop} {Y Y2 : XS → Prop} {R R' : (Int × Int) ⊕ (Int × XS)} (h : LFE n ni wk od f g wf gf sf kf A 0) (hY : YFE n th yr w a b c p A 0) (hu : t = u) (hR : (0 ≤ x ∧ x ≤ t) → R = R') (hw : 0 ≤ wk ∧ wk ≤ 400) (ho : 0 ≤ od ∧ od ≤ 20)
    (cb : ((0 ≤ x ∧ x ≤ t) ∧ ∃ (q9 : Int) (s9 : XS), R = .inr (q9, s9) ∧ Y s9) ∨ ((¬ (0 ≤ x ∧ x ≤ t) ∨ ∃ e9 : Int × Int, R = .inl e9) ∧ (n' = n ∧ ni' = ni ∧ lw' = lw) ∧ f' = f ∧ g' = g ∧ X2))
    (cd : ((0 ≤ x ∧ x ≤ t) ∧ (∃ (q9 : Int) (s9 : XS), R = .inr (q9, s9) ∧ gz wf' 0 = s9.2.2.2.1) ∧ wk' = 0 ∧ od' = 0 ∧ th' = 0) ∨ ((¬ (0 ≤ x ∧ x ≤ t) ∨ ∃ e9 : Int × Int, R = .inl e9) ∧ wk' = wk ∧ od' = od ∧ th' = th ∧ yr' = yr ∧ wf' = wf ∧ gf' = gf ∧ sf' = sf ∧ kf' = kf ∧ w' = w ∧ a' = a ∧ b' = b ∧ c' = c ∧ p' = p))
    (rb : ((0 ≤ x ∧ x ≤ u) ∧ ∃ (q9 : Int) (s9 : XS), R' = .inr (q9, s9) ∧ Y2 s9) ∨ ((¬ (0 ≤ x ∧ x ≤ u) ∨ ∃ e9 : Int × Int, R' = .inl e9) ∧ ∀ e : Int, 0 ≤ e → e < 890 → gz B e = gz A e))
    (rd : ((0 ≤ x ∧ x ≤ u) ∧ ∃ (q9 : Int) (s9 : XS), R' = .inr (q9, s9) ∧ (gz B 3 = 0 ∧ gz B 4 = 0 ∧ gz B 5 = -1) ∧ gz B 118 = s9.2.2.2.1) ∨ (¬ (0 ≤ x ∧ x ≤ u) ∨ ∃ e9 : Int × Int, R' = .inl e9)) : LFE n' ni' wk' od' f' g' wf' gf' sf' kf' B 0 ∧ YFE n' th' yr' w' a' b' c' p' B 0 := by
  subst hu
  rcases cd with ⟨ok, ⟨q, s, c1, c2⟩, c3, c4, c5⟩ | ⟨c0, e3, e4, e5, e6, g1, g2, g3, g4, g5, g6, g7, g8, g9⟩
  · rcases rd with ⟨-, q2, s2, r1, ⟨r3, r4, r5⟩, r6⟩ | r
    · rw [hR ok, r1] at c1
      injection c1 with k
      injection k with k1 k2
      exact ⟨LFE.begin c3 c4 r3 r4 (by rw [c2, r6, k2]), Or.inl ⟨c5, r5⟩⟩
    · rcases r with r | ⟨e, r⟩
      · exact absurd ok r
      · rw [hR ok, r] at c1
        exact absurd c1 (by intro z; injection z)
  · rcases cb with ⟨ok, q, s, c1, -⟩ | ⟨-, ⟨e1, e2, -⟩, e7, e8, -⟩
    · rcases c0 with c0 | ⟨e, c0⟩
      · exact absurd ok c0
      · rw [c0] at c1
        exact absurd c1 (by intro z; injection z)
    · subst e1 e2 e3 e4 e5 e6 e7 e8 g1 g2 g3 g4 g5 g6 g7 g8 g9
      have k : ∀ e : Int, 0 ≤ e → e < 890 → gz B e = gz A e := by
        rcases rb with ⟨ok, q2, s2, r1, -⟩ | ⟨-, k⟩
        · rcases c0 with c0 | ⟨e, c0⟩
          · exact absurd ok c0
          · rw [hR ok, r1] at c0
            exact absurd c0 (by intro z; injection z)
        · exact k
      exact ⟨h.keep (by omega) hw ho (fun e a b => k e (by omega) (by omega)), hY.keep (fun e a b => k (0 + e) (by omega) (by omega))⟩
/-- the rows of both sides' courses -/
theorem LFE.wn {n ni wk od t : Int} {f g wf gf sf kf A : Nat → Int32} (h : LFE n ni wk od f g wf gf sf kf A 0) (ht : 0 ≤ t ∧ t ≤ wk) : gz wf t = gz A (118 + t) := by
  have r1 : gz A 3 = wk := h.rg.1
  have h1 : 0 ≤ t ∧ t < wk + 1 := ⟨ht.1, by omega⟩
  have e : cut (wk + 1) (gz wf) t = cut (gz A 3 + 1) (gz (sh A 118)) t := congrFun (congrArg (fun x : LS_ => x.2.2.1) h.1) t
  rw [r1, cut_in h1, cut_in h1, sh_gz A (by omega) ht.1] at e
  exact e
theorem LFE.yr {n ni wk od : Int} {f g wf gf sf kf A B : Nat → Int32} (h : LFE n ni wk od f g wf gf sf kf A 0) (hw : 0 ≤ wk ∧ wk ≤ 400) (ho : 0 ≤ od ∧ od ≤ 20) (k : ∀ e : Int, 0 ≤ e → e < 520 → ¬ e = 5 → gz B e = gz A e) : LFE n ni wk od f g wf gf sf kf B 0 := by
  have r1 : gz A 3 = wk := h.rg.1
  have r2 : gz A 4 = od := h.rg.2
  have e : rL B = rL A := cL_like (k 3 (by omega) (by omega) (by omega)) (k 4 (by omega) (by omega) (by omega)) (fun e p q => by rw [sh_gz B (by omega) p, sh_gz A (by omega) p]; exact k _ (by omega) (by omega) (by omega)) (fun e p q => by rw [st2_gz B (by omega) p, st2_gz A (by omega) p]; exact k _ (by omega) (by omega) (by omega)) (fun e p q => by rw [st2_gz B (by omega) p, st2_gz A (by omega) p]; exact k _ (by omega) (by omega) (by omega))
  exact ⟨h.1.trans e.symm, h.2⟩
theorem td_two {n ni lw wk od wv x z y : Int} {A : Nat → Int32} (h0 : gz A 0 = n ∧ gz A 1 = ni ∧ gz A 2 = lw) (h3 : gz A 3 = wk ∧ gz A 4 = od) (h5 : wv = gz A (118 + wk)) (c : ((0 ≤ x ∧ x ≤ 5) ∧ ((x = 0 ∧ z = n) ∨ (x = 1 ∧ z = ni) ∨ (x = 2 ∧ z = lw) ∨ (x = 3 ∧ z = wk) ∨ (x = 4 ∧ z = od) ∨ (x = 5 ∧ z = wv))) ∨ (¬ (0 ≤ x ∧ x ≤ 5) ∧ z = -1)) (r : ((0 ≤ x ∧ x ≤ 5) ∧ ((x = 5 ∧ y = gz A (118 + gz A 3)) ∨ (¬ x = 5 ∧ y = gz A x))) ∨ (¬ (0 ≤ x ∧ x ≤ 5) ∧ y = -1)) : z = y := by
  rw [h3.1] at r
  rcases c with ⟨c1, c2⟩ | ⟨c1, c2⟩
  · rcases r with ⟨-, r2⟩ | ⟨r1, -⟩
    · rcases c2 with ⟨e, c2⟩ | ⟨e, c2⟩ | ⟨e, c2⟩ | ⟨e, c2⟩ | ⟨e, c2⟩ | ⟨e, c2⟩ <;> rw [e] at r2 <;> omega
    · exact absurd c1 r1
  · rcases r with ⟨r1, -⟩ | ⟨-, r2⟩
    · exact absurd r1 c1
    · rw [c2, r2]
end
