theorem xRw.ext {f g : Nat → Int32} {F : Int → Int} {n v : Int} (h : xRw f F n) (hg : g = upd f (iZ n).toNatClampNeg (iZ v)) (hn : 0 ≤ n ∧ n < 2147483648) (hv : -2147483648 ≤ v ∧ v < 2147483648) (e : v = F n) : xRw g F (n + 1) := by
  intro j h1 h2
  rw [gz_up hg hn hv h1]
  by_cases q : j = n
  · rw [if_pos q, q]; exact e
  · rw [if_neg q]; exact h j h1 (by omega)
theorem xRw.n0 {f : Nat → Int32} {F : Int → Int} : xRw f F 0 := fun j h1 h2 => absurd h1 (by omega)
/-- the one that is to tell next -/
def SR (k : Nat → Int32) (t i m : Int) : Prop := (m = -1 ∧ ∀ o : Int, 0 ≤ o → o < i → ¬ gz k o < 1000000 ∨ ¬ bt t o) ∨ ((0 ≤ m ∧ m < i) ∧ gz k m < 1000000 ∧ bt t m ∧ ∀ o : Int, 0 ≤ o → o < i → bt t o → gz k o < 1000000 → gz k m ≤ gz k o)
theorem SR_0 {k : Nat → Int32} {t : Int} : SR k t 0 (-1) := Or.inl ⟨rfl, fun o a b => absurd a (by omega)⟩
theorem SR_n {k : Nat → Int32} {t i m : Int} (h : SR k t i m) (c : (¬ gz k i < 1000000 ∨ ¬ bt t i) ∨ (¬ m = -1 ∧ gz k m ≤ gz k i)) : SR k t (i + 1) m := by
  rcases h with ⟨h1, h2⟩ | ⟨h1, h2, h3, h4⟩
  · refine Or.inl ⟨h1, fun o a b => ?_⟩
    rcases Int.lt_or_eq_of_le (show o ≤ i by omega) with d | d
    · exact h2 o a d
    · rw [d]
      rcases c with c | c
      · exact c
      · exact absurd h1 c.1
  · refine Or.inr ⟨⟨h1.1, by omega⟩, h2, h3, fun o a b e g => ?_⟩
    rcases Int.lt_or_eq_of_le (show o ≤ i by omega) with d | d
    · exact h4 o a d e g
    · rw [d] at e g ⊢
      rcases c with (c | c) | c
      · exact absurd g c
      · exact absurd e c
      · exact c.2
theorem SR_u {k : Nat → Int32} {t i m : Int} (h : SR k t i m) (hi : 0 ≤ i) (h1 : gz k i < 1000000) (h2 : bt t i) (c : m = -1 ∨ gz k i < gz k m) : SR k t (i + 1) i := by
  refine Or.inr ⟨⟨hi, by omega⟩, h1, h2, fun o a b e g => ?_⟩
  rcases Int.lt_or_eq_of_le (show o ≤ i by omega) with d | d
  · rcases h with ⟨m1, m2⟩ | ⟨m1, m2, m3, m4⟩
    · rcases m2 o a d with q | q
      · exact absurd g q
      · exact absurd e q
    · have := m4 o a d e g
      omega
  · rw [d]; exact Int.le_refl _
theorem SR_m1 {k : Nat → Int32} {t n m : Int} (h : SR k t n m) (e : m = -1) : ∀ o : Int, 0 ≤ o → o < n → ¬ gz k o < 1000000 ∨ ¬ bt t o := by
  rcases h with ⟨-, h2⟩ | ⟨h1, -⟩
  · exact h2
  · exact absurd h1.1 (by omega)
theorem SR_b {k : Nat → Int32} {t n m : Int} (h : SR k t n m) (hm : 0 ≤ m) : (m < n ∧ gz k m < 1000000) ∧ bt t m := by
  rcases h with ⟨h1, -⟩ | ⟨h1, h2, h3, -⟩
  · exact absurd h1 (by omega)
  · exact ⟨⟨h1.2, h2⟩, h3⟩
abbrev NWU (f g : Nat → Int32) (ni n x w : Int) (T : Int → Prop) (p u : Int) (k t b : Nat → Int32) : Prop := nwI (arF f g ni) n x w T p u (gz k) (gz t) (gz b)
/-- between two that tell: t the set of those that told, c how many -/
def NWR (f g : Nat → Int32) (ni n x w t c : Int) (k l b : Nat → Int32) : Prop := NWU f g ni n x w (fun r => Tb t r = true) (-1) 0 k l b ∧ rgI b 0 c 6 ∧ (0 ≤ t ∧ t < 64) ∧ (cntT (Tb t) n.toNat : Int) = c
theorem cntT_0 (m : Nat) : cntT (Tb 0) m = 0 := by
  induction m with
  | zero => rfl
  | succ m ih =>
    unfold cntT
    rw [ih, if_neg (Tb_0 _)]
theorem NWR_0 {f g k l b : Nat → Int32} {ni n x w : Int} (hw : 0 ≤ w ∧ w < 1000000) (hx : 0 ≤ x ∧ x < n) (hn : n ≤ 6) (hk : xRw k (fun o => if o = x then w else 1000000) 6) (hl : xRw l (fun _ => -1) 6) (hb : xRw b (fun _ => 0) 6) : NWR f g ni n x w 0 0 k l b := by
  refine ⟨nwI_0 hw hx (fun o a c => hk o a (by omega)) (fun o a c => hl o a (by omega)) (hb x hx.1 (by omega)) Tb_0, fun e a c => ?_, ⟨by omega, by omega⟩, ?_⟩
  · have h9 : gz b e = 0 := hb e a c
    omega
  · rw [cntT_0]; rfl
theorem NWR_p {f g k l b : Nat → Int32} {ni n x w t c p z1 z2 : Int} (q : NWR f g ni n x w t c k l b) (hn : n ≤ 6) (hx : 0 ≤ x ∧ x < n) (hp : 0 ≤ p) (sb : SR k t n p) (h1 : iZ z1 = iZ 1 <<< (iZ p &&& 31)) (h2 : iZ z2 = iZ t ||| iZ z1) : NWU f g ni n x w (fun r => Tb z2 r = true) p 0 k l b ∧ cntT (Tb z2) n.toNat = cntT (Tb t) n.toNat + 1 := by
  obtain ⟨q1, -, q3, -⟩ := q
  rcases sb with ⟨m1, -⟩ | ⟨m1, m2, m3, m4⟩
  · exact absurd m1 (by omega)
  · have np : ¬ Tb t p = true := fun e => (Tb_iff.mp e).2 m3
    have hp6 : 0 ≤ p ∧ p < 6 := ⟨m1.1, by omega⟩
    refine ⟨nwI_p q1 m1 np m2 (fun o a d e => ?_) (fun r a d => ?_) hx, ?_⟩
    · have y := Tb_no ⟨a, by omega⟩ e
      by_cases z : gz k o < 1000000
      · exact m4 o a d y z
      · show gz k p ≤ gz k o
        omega
    · show Tb z2 r = true ↔ Tb t r = true ∨ r = p
      rw [Tb_or q3 hp6 h1 h2 r, Bool.or_eq_true, decide_eq_true_iff]
    · have := cntT_add (T := Tb t) (T' := Tb z2) (p := p) (fun r => Tb_or q3 hp6 h1 h2 r) (by cases y : Tb t p with | false => rfl | true => exact absurd y np) n.toNat m1.1
      rw [if_pos (by omega)] at this
      exact this
theorem tr_n {f g k t b : Nat → Int32} {ni n x w p i z se : Int} (h : NWU f g ni n x w (fun r => Tb se r = true) p i k t b) (hx : FXI f n) (hn : n ≤ 6) (hp : 0 ≤ p ∧ p < n) (tp : Tb se p = true) (hi : 0 ≤ i ∧ i < n) (hz : z = arF f g ni p (gz k p) i) (c : ¬ bt se i ∨ z > gz k i ∨ z = 1000000 ∨ (z = gz k i ∧ p > gz t i)) : NWU f g ni n x w (fun r => Tb se r = true) p (i + 1) k t b := by
  refine nwI_n h (later_ar hx) hp tp hi ?_
  rcases c with c | c | c | c
  · exact Or.inr (Or.inl (Tb_iff.mpr ⟨⟨hi.1, by omega⟩, c⟩))
  · exact Or.inr (Or.inr (Or.inr (Or.inl (by rw [← hz]; omega))))
  · exact Or.inr (Or.inr (Or.inl (by rw [← hz]; exact c)))
  · exact Or.inr (Or.inr (Or.inr (Or.inr ⟨by rw [← hz]; omega, by omega⟩)))
theorem tr_u {f g k t b k' t' b' : Nat → Int32} {ni n x w p i z se v : Int} (h : NWU f g ni n x w (fun r => Tb se r = true) p i k t b) (hx : FXI f n) (hn : n ≤ 6) (hX : 0 ≤ x ∧ x < n) (hp : 0 ≤ p ∧ p < n) (tp : Tb se p = true) (hi : 0 ≤ i ∧ i < n) (hz : z = arF f g ni p (gz k p) i) (nb : bt se i) (c1 : ¬ z > gz k i) (c2 : ¬ z = 1000000) (c3 : ¬ (z = gz k i ∧ p > gz t i)) (hr : -2147483648 ≤ z ∧ z < 2147483648) (hv : v = gz b p + 1) (hvr : -2147483648 ≤ v ∧ v < 2147483648) (hk : k' = upd k (iZ i).toNatClampNeg (iZ z)) (ht : t' = upd t (iZ i).toNatClampNeg (iZ p)) (hb : b' = upd b (iZ i).toNatClampNeg (iZ v)) : NWU f g ni n x w (fun r => Tb se r = true) p (i + 1) k' t' b' := by
  have nt : ¬ Tb se i = true := fun e => (Tb_iff.mp e).2 nb
  have ne : ¬ p = i := fun e => nt (e ▸ tp)
  have kp := h.2.2.2.1 p hp.1 hp.2 tp
  have lt := later_ar (g := g) (ni := ni) hx p (gz k p) i hp.1 hp.2 hi.1 hi.2 ne (h.2.1 p hp.1 hp.2).1 kp
  refine nwI_u h (later_ar hx) hX hp tp hi nt (by rw [← hz]; omega) (by rw [← hz]; by_cases y : z = gz k i; exact Or.inr ⟨y, by omega⟩; exact Or.inl (by omega)) (fun o a d => ?_) (fun o a d => ?_) (fun o a d => ?_)
  · have e := gz_up hk (j := o) ⟨by omega, by omega⟩ hr a
    rw [e, hz]
  · exact gz_up ht (j := o) ⟨by omega, by omega⟩ ⟨by omega, by omega⟩ a
  · have e := gz_up hb (j := o) ⟨by omega, by omega⟩ hvr a
    rw [e, hv]
theorem NWR_e {f g k l b : Nat → Int32} {ni n x w t c : Int} (q : NWR f g ni n x w t c k l b) (hn : n ≤ 6) (he : ∀ o : Int, 0 ≤ o → o < n → ¬ gz k o < 1000000 ∨ ¬ bt t o) : isNW (arF f g ni) n x w (gz k) (gz l) (gz b) := by
  refine nwI_nw q.1 (fun o a d e => ?_)
  have r := q.1.2.1 o a d
  rcases he o a d with y | y
  · omega
  · exact absurd (Tb_no ⟨a, by omega⟩ e) y
set_option maxHeartbeats 4000000 in
set_option maxRecDepth 100000 in
theorem m_lays (l : Launch) (D : va_G) (k : Nat → ClassId) (hm : Nat) (Ma : Nat) (Mn : Nat) (Ms : Nat) (My : Nat) (Mt : Nat) (Mp : Nat) (Mx : Nat) (Mo : Nat) (Mk : Nat) (Ml : Nat) (Mb : Nat) (Mh : Nat) (Mc : Nat) (Mz : Nat) (Mr : Nat) (Mq : Nat) (Mst : Int) (Mtd : Int) (Msz : Int) (Mtk : Int) (Mfr : Int) (Men : Int) (Mva : Int) (Mfk : Int) (Mfp : Int) (Mfs : Int) (Mse : Int) (Mlt : Int) (Mdp : Int) (Mct : Int) (Mdr : Int) (Mrs : Int) (Mit : Int) (Mmk : Int) (Mtp : Int64) (Mbt : Int64) (Af : Nat → Int32) (Kf : Nat → Int32) (Lf : Nat → Int32) (Bf : Nat → Int32) (x : Int) (w : Int) (hM : M0 Af) (h9x : 0 ≤ x ∧ x < gz Af 0) (h9w : 0 ≤ w ∧ w ≤ 400) : WD (σ := ((Int) × (Int64) × ((Nat → Int32) × (Nat → Int32) × (Nat → Int32)) × (Unit))) l yX12_lays cX12_lays 7 none 5 0 0 D k [.ref hm, .int (iZ x), .int (iZ w)] [(hm, .inr (12, [.ref Ma, .ref Mn, .int (iZ Mst), .long Mtp, .long Mbt, .ref Ms, .ref My, .ref Mt, .ref Mp, .ref Mx, .int (iZ Mtd), .int (iZ Msz), .int (iZ Mtk), .int (iZ Mfr), .int (iZ Men), .int (iZ Mva), .int (iZ Mfk), .int (iZ Mfp), .int (iZ Mfs), .int (iZ Mse), .int (iZ Mlt), .ref Mo, .int (iZ Mdp), .int (iZ Mct), .ref Mk, .ref Ml, .ref Mb, .ref Mh, .ref Mc, .int (iZ Mdr), .int (iZ Mrs), .ref Mz, .ref Mr, .ref Mq, .int (iZ Mit), .int (iZ Mmk)])), (Ma, .inl (k 1, 5340, .inl Af)), (Mk, .inl (k 1, 6, .inl Kf)), (Ml, .inl (k 1, 6, .inl Lf)), (Mb, .inl (k 1, 6, .inl Bf))] (fun _ => none) (fun u => (KR u.2.2.1.1 6) ∧ (rgI u.2.2.1.2.1 (-1) 5 6) ∧ (isNW (arF (sh Af 10) (sh Af 46) (gz Af 1)) (gz Af 0) x w (gz u.2.2.1.1) (gz u.2.2.1.2.1) (gz u.2.2.1.2.2))) (fun u => [(hm, .inr (12, [.ref Ma, .ref Mn, .int (iZ Mst), .long Mtp, .long Mbt, .ref Ms, .ref My, .ref Mt, .ref Mp, .ref Mx, .int (iZ Mtd), .int (iZ Msz), .int (iZ Mtk), .int (iZ Mfr), .int (iZ Men), .int (iZ Mva), .int (iZ Mfk), .int (iZ Mfp), .int (iZ Mfs), .int (iZ Mse), .int (iZ Mlt), .ref Mo, .int (iZ Mdp), .int (iZ Mct), .ref Mk, .ref Ml, .ref Mb, .ref Mh, .ref Mc, .int (iZ Mdr), .int (iZ Mrs), .ref Mz, .ref Mr, .ref Mq, .int (iZ Mit), .int (iZ Mmk)])), (Ma, .inl (k 1, 5340, .inl Af)), (Mk, .inl (k 1, 6, .inl u.2.2.1.1)), (Ml, .inl (k 1, 6, .inl u.2.2.1.2.1)), (Mb, .inl (k 1, 6, .inl u.2.2.1.2.2))]) := by
  refine MW (by decide) (Nat.le_of_ble_eq_true rfl) (fun p e s m below meth c ls A hx hb hml hr hlocks hin hts hown hKK hP hD hS hA hl => ?_)
  have hK := hKK.1
  have hl : lv_has ls 7 [(0, .ref hm), (1, .int (iZ x)), (2, .int (iZ w))] := hl
  obtain ⟨m0, m1, m3, m4, m5, mF, mO, mS⟩ := id hM
  refine lv_iconst (v := iZ 0) hx hb dX12_lays_0 rfl ?_
  refine lv_istore_n (lv' := [(3, .int (iZ 0)), (0, .ref hm), (1, .int (iZ x)), (2, .int (iZ w))]) hx hb dX12_lays_1 rfl hl (bl rfl) rfl (fun ls hl => ?_)
  refine lv_iconst (v := iZ 0) hx hb dX12_lays_2 rfl ?_
  refine lv_istore (lv' := [(4, .int (iZ 0)), (3, .int (iZ 0)), (0, .ref hm), (1, .int (iZ x)), (2, .int (iZ w))]) hx hb dX12_lays_3 hl (bl rfl) rfl (fun ls hl => ?_)
  have HL1 : ∀ (fu : Nat) (i : Int) (Kf1 : Nat → Int32) (Lf1 : Nat → Int32) (Bf1 : Nat → Int32) (H : Heap) (locs : List Loc) (ls : Array Slot), (7 - i) < (fu : Int) → (0 ≤ i ∧ i ≤ 6) → (KR Kf1 i) → (rgI Lf1 (-1) 5 i) → (xRw Kf1 (fun o => if o = x then w else 1000000) i) → (xRw Lf1 (fun _ => -1) i) → (xRw Bf1 (fun _ => 0) i) → va_P D vwCl [(hm, .inr (12, [.ref Ma, .ref Mn, .int (iZ Mst), .long Mtp, .long Mbt, .ref Ms, .ref My, .ref Mt, .ref Mp, .ref Mx, .int (iZ Mtd), .int (iZ Msz), .int (iZ Mtk), .int (iZ Mfr), .int (iZ Men), .int (iZ Mva), .int (iZ Mfk), .int (iZ Mfp), .int (iZ Mfs), .int (iZ Mse), .int (iZ Mlt), .ref Mo, .int (iZ Mdp), .int (iZ Mct), .ref Mk, .ref Ml, .ref Mb, .ref Mh, .ref Mc, .int (iZ Mdr), .int (iZ Mrs), .ref Mz, .ref Mr, .ref Mq, .int (iZ Mit), .int (iZ Mmk)])), (Ma, .inl (k 1, 5340, .inl Af)), (Mk, .inl (k 1, 6, .inl Kf1)), (Ml, .inl (k 1, 6, .inl Lf1)), (Mb, .inl (k 1, 6, .inl Bf1))] H → va_D A [(hm, .inr (12, [.ref Ma, .ref Mn, .int (iZ Mst), .long Mtp, .long Mbt, .ref Ms, .ref My, .ref Mt, .ref Mp, .ref Mx, .int (iZ Mtd), .int (iZ Msz), .int (iZ Mtk), .int (iZ Mfr), .int (iZ Men), .int (iZ Mva), .int (iZ Mfk), .int (iZ Mfp), .int (iZ Mfs), .int (iZ Mse), .int (iZ Mlt), .ref Mo, .int (iZ Mdp), .int (iZ Mct), .ref Mk, .ref Ml, .ref Mb, .ref Mh, .ref Mc, .int (iZ Mdr), .int (iZ Mrs), .ref Mz, .ref Mr, .ref Mq, .int (iZ Mit), .int (iZ Mmk)])), (Ma, .inl (k 1, 5340, .inl Af)), (Mk, .inl (k 1, 6, .inl Kf1)), (Ml, .inl (k 1, 6, .inl Lf1)), (Mb, .inl (k 1, 6, .inl Bf1))] → va_S A s.heap H locs → lv_has ls 7 [(4, .int (iZ i)), (3, .int (iZ 0)), (0, .ref hm), (1, .int (iZ x)), (2, .int (iZ w))] → W p l e (rj 5 0 0) s m [.ref hm, .int (iZ x), .int (iZ w)].toArray below meth c H locs 0 0 (MQ below (QW (σ := ((Int) × (Int64) × ((Nat → Int32) × (Nat → Int32) × (Nat → Int32)) × (Unit))) (fun _ => none) (fun u => (KR u.2.2.1.1 6) ∧ (rgI u.2.2.1.2.1 (-1) 5 6) ∧ (isNW (arF (sh Af 10) (sh Af 46) (gz Af 1)) (gz Af 0) x w (gz u.2.2.1.1) (gz u.2.2.1.2.1) (gz u.2.2.1.2.2))) (fun u => [(hm, .inr (12, [.ref Ma, .ref Mn, .int (iZ Mst), .long Mtp, .long Mbt, .ref Ms, .ref My, .ref Mt, .ref Mp, .ref Mx, .int (iZ Mtd), .int (iZ Msz), .int (iZ Mtk), .int (iZ Mfr), .int (iZ Men), .int (iZ Mva), .int (iZ Mfk), .int (iZ Mfp), .int (iZ Mfs), .int (iZ Mse), .int (iZ Mlt), .ref Mo, .int (iZ Mdp), .int (iZ Mct), .ref Mk, .ref Ml, .ref Mb, .ref Mh, .ref Mc, .int (iZ Mdr), .int (iZ Mrs), .ref Mz, .ref Mr, .ref Mq, .int (iZ Mit), .int (iZ Mmk)])), (Ma, .inl (k 1, 5340, .inl Af)), (Mk, .inl (k 1, 6, .inl u.2.2.1.1)), (Ml, .inl (k 1, 6, .inl u.2.2.1.2.1)), (Mb, .inl (k 1, 6, .inl u.2.2.1.2.2))]) D A) [.ref hm, .int (iZ x), .int (iZ w)].toArray s 0 0 A) (F0 m 5 ls []) := by
    intro fu
    induction fu with
    | zero => intro i Kf1 Lf1 Bf1 H locs ls hμ1 hi1 hk1 hl1 hkx hlx hbx hP hD hS hl; exact absurd hμ1 (by omega)
    | succ fu ih1 =>
      intro i Kf1 Lf1 Bf1 H locs ls hμ1 hi1 hk1 hl1 hkx hlx hbx hP hD hS hl
      refine lv_iload hx hb dX12_lays_5 (lv_at hl 0 rfl) ?_
      refine lv_bipush (v := iZ 6) hx hb dX12_lays_7 bip_6 ?_
      refine lv_icmp_ge (tgt := 53) hx hb dX12_lays_9 rfl (fun c_1 => ?_) (fun c_1 => ?_)
      ·
        have c_1 := (zle (x := iZ 6) (y := iZ i) rfl rfl wn_6 ⟨by omega, by omega⟩).mp c_1
        obtain rfl : i = 6 := by omega
        have HL2 : ∀ (fu : Nat) (se : Int) (Kf2 : Nat → Int32) (Lf2 : Nat → Int32) (Bf2 : Nat → Int32) (cc : Int) (H : Heap) (locs : List Loc) (ls : Array Slot), (64 - se) < (fu : Int) → (0 ≤ se ∧ se < 64) → (KR Kf2 6) → (rgI Lf2 (-1) 5 6) → (NWR (sh Af 10) (sh Af 46) (gz Af 1) (gz Af 0) x w se cc Kf2 Lf2 Bf2) → va_P D vwCl [(hm, .inr (12, [.ref Ma, .ref Mn, .int (iZ Mst), .long Mtp, .long Mbt, .ref Ms, .ref My, .ref Mt, .ref Mp, .ref Mx, .int (iZ Mtd), .int (iZ Msz), .int (iZ Mtk), .int (iZ Mfr), .int (iZ Men), .int (iZ Mva), .int (iZ Mfk), .int (iZ Mfp), .int (iZ Mfs), .int (iZ Mse), .int (iZ Mlt), .ref Mo, .int (iZ Mdp), .int (iZ Mct), .ref Mk, .ref Ml, .ref Mb, .ref Mh, .ref Mc, .int (iZ Mdr), .int (iZ Mrs), .ref Mz, .ref Mr, .ref Mq, .int (iZ Mit), .int (iZ Mmk)])), (Ma, .inl (k 1, 5340, .inl Af)), (Mk, .inl (k 1, 6, .inl Kf2)), (Ml, .inl (k 1, 6, .inl Lf2)), (Mb, .inl (k 1, 6, .inl Bf2))] H → va_D A [(hm, .inr (12, [.ref Ma, .ref Mn, .int (iZ Mst), .long Mtp, .long Mbt, .ref Ms, .ref My, .ref Mt, .ref Mp, .ref Mx, .int (iZ Mtd), .int (iZ Msz), .int (iZ Mtk), .int (iZ Mfr), .int (iZ Men), .int (iZ Mva), .int (iZ Mfk), .int (iZ Mfp), .int (iZ Mfs), .int (iZ Mse), .int (iZ Mlt), .ref Mo, .int (iZ Mdp), .int (iZ Mct), .ref Mk, .ref Ml, .ref Mb, .ref Mh, .ref Mc, .int (iZ Mdr), .int (iZ Mrs), .ref Mz, .ref Mr, .ref Mq, .int (iZ Mit), .int (iZ Mmk)])), (Ma, .inl (k 1, 5340, .inl Af)), (Mk, .inl (k 1, 6, .inl Kf2)), (Ml, .inl (k 1, 6, .inl Lf2)), (Mb, .inl (k 1, 6, .inl Bf2))] → va_S A s.heap H locs → lv_has ls 7 [(3, .int (iZ se)), (0, .ref hm), (1, .int (iZ x)), (2, .int (iZ w))] → W p l e (rj 5 0 0) s m [.ref hm, .int (iZ x), .int (iZ w)].toArray below meth c H locs 0 0 (MQ below (QW (σ := ((Int) × (Int64) × ((Nat → Int32) × (Nat → Int32) × (Nat → Int32)) × (Unit))) (fun _ => none) (fun u => (KR u.2.2.1.1 6) ∧ (rgI u.2.2.1.2.1 (-1) 5 6) ∧ (isNW (arF (sh Af 10) (sh Af 46) (gz Af 1)) (gz Af 0) x w (gz u.2.2.1.1) (gz u.2.2.1.2.1) (gz u.2.2.1.2.2))) (fun u => [(hm, .inr (12, [.ref Ma, .ref Mn, .int (iZ Mst), .long Mtp, .long Mbt, .ref Ms, .ref My, .ref Mt, .ref Mp, .ref Mx, .int (iZ Mtd), .int (iZ Msz), .int (iZ Mtk), .int (iZ Mfr), .int (iZ Men), .int (iZ Mva), .int (iZ Mfk), .int (iZ Mfp), .int (iZ Mfs), .int (iZ Mse), .int (iZ Mlt), .ref Mo, .int (iZ Mdp), .int (iZ Mct), .ref Mk, .ref Ml, .ref Mb, .ref Mh, .ref Mc, .int (iZ Mdr), .int (iZ Mrs), .ref Mz, .ref Mr, .ref Mq, .int (iZ Mit), .int (iZ Mmk)])), (Ma, .inl (k 1, 5340, .inl Af)), (Mk, .inl (k 1, 6, .inl u.2.2.1.1)), (Ml, .inl (k 1, 6, .inl u.2.2.1.2.1)), (Mb, .inl (k 1, 6, .inl u.2.2.1.2.2))]) D A) [.ref hm, .int (iZ x), .int (iZ w)].toArray s 0 0 A) (F0 m 53 ls []) := by
          intro fu
          induction fu with
          | zero => intro se Kf2 Lf2 Bf2 cc H locs ls hμ2 hse hk2 hl2 hnr hP hD hS hl; exact absurd hμ2 (by omega)
          | succ fu ih2 =>
            intro se Kf2 Lf2 Bf2 cc H locs ls hμ2 hse hk2 hl2 hnr hP hD hS hl
            refine lv_iconst (v := iZ (-1)) hx hb dX12_lays_53 rfl ?_
            refine lv_istore (lv' := [(4, .int (iZ (-1))), (3, .int (iZ se)), (0, .ref hm), (1, .int (iZ x)), (2, .int (iZ w))]) hx hb dX12_lays_54 hl (bl rfl) rfl (fun ls hl => ?_)
            refine lv_iconst (v := iZ 0) hx hb dX12_lays_56 rfl ?_
            refine lv_istore (lv' := [(5, .int (iZ 0)), (4, .int (iZ (-1))), (3, .int (iZ se)), (0, .ref hm), (1, .int (iZ x)), (2, .int (iZ w))]) hx hb dX12_lays_57 hl (bl rfl) rfl (fun ls hl => ?_)
            have HL3 : ∀ (fu : Nat) (nx : Int) (r1 : Int) (H : Heap) (locs : List Loc) (ls : Array Slot), (gz Af 0 + 1 - r1) < (fu : Int) → (0 ≤ r1 ∧ r1 ≤ gz Af 0) → (-1 ≤ nx ∧ nx < gz Af 0) → (SR Kf2 se r1 nx) → va_P D vwCl [(hm, .inr (12, [.ref Ma, .ref Mn, .int (iZ Mst), .long Mtp, .long Mbt, .ref Ms, .ref My, .ref Mt, .ref Mp, .ref Mx, .int (iZ Mtd), .int (iZ Msz), .int (iZ Mtk), .int (iZ Mfr), .int (iZ Men), .int (iZ Mva), .int (iZ Mfk), .int (iZ Mfp), .int (iZ Mfs), .int (iZ Mse), .int (iZ Mlt), .ref Mo, .int (iZ Mdp), .int (iZ Mct), .ref Mk, .ref Ml, .ref Mb, .ref Mh, .ref Mc, .int (iZ Mdr), .int (iZ Mrs), .ref Mz, .ref Mr, .ref Mq, .int (iZ Mit), .int (iZ Mmk)])), (Ma, .inl (k 1, 5340, .inl Af)), (Mk, .inl (k 1, 6, .inl Kf2)), (Ml, .inl (k 1, 6, .inl Lf2)), (Mb, .inl (k 1, 6, .inl Bf2))] H → va_D A [(hm, .inr (12, [.ref Ma, .ref Mn, .int (iZ Mst), .long Mtp, .long Mbt, .ref Ms, .ref My, .ref Mt, .ref Mp, .ref Mx, .int (iZ Mtd), .int (iZ Msz), .int (iZ Mtk), .int (iZ Mfr), .int (iZ Men), .int (iZ Mva), .int (iZ Mfk), .int (iZ Mfp), .int (iZ Mfs), .int (iZ Mse), .int (iZ Mlt), .ref Mo, .int (iZ Mdp), .int (iZ Mct), .ref Mk, .ref Ml, .ref Mb, .ref Mh, .ref Mc, .int (iZ Mdr), .int (iZ Mrs), .ref Mz, .ref Mr, .ref Mq, .int (iZ Mit), .int (iZ Mmk)])), (Ma, .inl (k 1, 5340, .inl Af)), (Mk, .inl (k 1, 6, .inl Kf2)), (Ml, .inl (k 1, 6, .inl Lf2)), (Mb, .inl (k 1, 6, .inl Bf2))] → va_S A s.heap H locs → lv_has ls 7 [(5, .int (iZ r1)), (4, .int (iZ nx)), (3, .int (iZ se)), (0, .ref hm), (1, .int (iZ x)), (2, .int (iZ w))] → W p l e (rj 5 0 0) s m [.ref hm, .int (iZ x), .int (iZ w)].toArray below meth c H locs 0 0 (MQ below (QW (σ := ((Int) × (Int64) × ((Nat → Int32) × (Nat → Int32) × (Nat → Int32)) × (Unit))) (fun _ => none) (fun u => (KR u.2.2.1.1 6) ∧ (rgI u.2.2.1.2.1 (-1) 5 6) ∧ (isNW (arF (sh Af 10) (sh Af 46) (gz Af 1)) (gz Af 0) x w (gz u.2.2.1.1) (gz u.2.2.1.2.1) (gz u.2.2.1.2.2))) (fun u => [(hm, .inr (12, [.ref Ma, .ref Mn, .int (iZ Mst), .long Mtp, .long Mbt, .ref Ms, .ref My, .ref Mt, .ref Mp, .ref Mx, .int (iZ Mtd), .int (iZ Msz), .int (iZ Mtk), .int (iZ Mfr), .int (iZ Men), .int (iZ Mva), .int (iZ Mfk), .int (iZ Mfp), .int (iZ Mfs), .int (iZ Mse), .int (iZ Mlt), .ref Mo, .int (iZ Mdp), .int (iZ Mct), .ref Mk, .ref Ml, .ref Mb, .ref Mh, .ref Mc, .int (iZ Mdr), .int (iZ Mrs), .ref Mz, .ref Mr, .ref Mq, .int (iZ Mit), .int (iZ Mmk)])), (Ma, .inl (k 1, 5340, .inl Af)), (Mk, .inl (k 1, 6, .inl u.2.2.1.1)), (Ml, .inl (k 1, 6, .inl u.2.2.1.2.1)), (Mb, .inl (k 1, 6, .inl u.2.2.1.2.2))]) D A) [.ref hm, .int (iZ x), .int (iZ w)].toArray s 0 0 A) (F0 m 59 ls []) := by
              intro fu
              induction fu with
              | zero => intro nx r1 H locs ls hμ3 hr1 hnx hsr hP hD hS hl; exact absurd hμ3 (by omega)
              | succ fu ih3 =>
                intro nx r1 H locs ls hμ3 hr1 hnx hsr hP hD hS hl
                refine lv_iload hx hb dX12_lays_59 (lv_at hl 0 rfl) ?_
                refine lv_aload_n hx hb dX12_lays_61 rfl (lv_at hl 3 rfl) ?_
                refine va_get (D := D) (ci := 12) (v := .ref Ma) (C := RX12) (T := TX12) (N := 36) hx hb hts iX12 hown hK hP 0 rfl rfl 0 (bl rfl) (hts _ qf_X12_7) (fun _ h => h) rfl dX12_lays_62 ?_
                refine lv_iconst (v := iZ 0) hx hb dX12_lays_65 rfl ?_
                refine va_iald hx hb hK hP 1 1 rfl rfl (zin (e := 0) (n := 5340) ⟨by omega, by omega⟩ (bl rfl)) dX12_lays_66 ?_
                refine lv_topi (fun x_2 ex_2 => ?_)
                obtain rfl : x_2 = iZ (gz Af 0) := ex_2.trans (gz_eq ⟨by omega, by omega⟩)
                have h_3 := gz_rg Af 0
                refine lv_icmp_ge (tgt := 124) hx hb dX12_lays_67 rfl (fun c_4 => ?_) (fun c_4 => ?_)
                ·
                  have c_4 := (zle (x := iZ (gz Af 0)) (y := iZ r1) rfl rfl (gz_rg Af 0) ⟨by omega, by omega⟩).mp c_4
                  have hsr2 : SR Kf2 se (gz Af 0) nx := by have e9 : r1 = gz Af 0 := (by omega); rw [← e9]; exact hsr
                  refine lv_iload hx hb dX12_lays_124 (lv_at hl 1 rfl) ?_
                  refine lv_iconst (v := iZ (-1)) hx hb dX12_lays_126 rfl ?_
                  refine lv_icmp_ne (tgt := 131) hx hb dX12_lays_127 rfl (fun c_5 => ?_) (fun c_5 => ?_)
                  ·
                    have c_5 := mt (zeq (x := iZ nx) (y := iZ (-1)) rfl rfl ⟨by omega, by omega⟩ wn_m1).mpr c_5
                    refine lv_iload_n hx hb dX12_lays_131 rfl (lv_at hl 2 rfl) ?_
                    refine lv_iconst (v := iZ 1) hx hb dX12_lays_132 rfl ?_
                    refine lv_iload hx hb dX12_lays_133 (lv_at hl 1 rfl) ?_
                    refine lv_ishl hx hb dX12_lays_135 ?_
                    refine lv_topi (fun x_7 ex_7 => ?_)
                    obtain ⟨z_6, hz_6, hz_6a, hz_6b⟩ := i32_z x_7
                    subst hz_6
                    refine lv_ior hx hb dX12_lays_136 ?_
                    refine lv_topi (fun x_9 ex_9 => ?_)
                    obtain ⟨z_8, hz_8, hz_8a, hz_8b⟩ := i32_z x_9
                    subst hz_8
                    refine lv_istore_n (lv' := [(3, .int (iZ z_8)), (5, .int (iZ r1)), (4, .int (iZ nx)), (0, .ref hm), (1, .int (iZ x)), (2, .int (iZ w))]) hx hb dX12_lays_137 rfl hl (bl rfl) rfl (fun ls hl => ?_)
                    have hsb := SR_b hsr2 (by omega)
                    have hbs := bt_set hse ⟨by omega, by omega⟩ hsb.2 ex_7 ex_9 ⟨hz_8a, hz_8b⟩
                    obtain ⟨hnt0, hct⟩ := NWR_p hnr m0.2 h9x (by omega) hsr2 ex_7 ex_9
                    have htp : Tb z_8 nx = true := Tb_p hnr.2.2.1 ⟨by omega, by omega⟩ ex_7 ex_9
                    have hcq := hnr.2.2.2
                    have hcl := cntT_le (Tb se) (gz Af 0).toNat
                    have hbn0 := hnr.2.1 nx (by omega) (by omega)
                    refine lv_iconst (v := iZ 0) hx hb dX12_lays_138 rfl ?_
                    refine lv_istore (lv' := [(5, .int (iZ 0)), (3, .int (iZ z_8)), (4, .int (iZ nx)), (0, .ref hm), (1, .int (iZ x)), (2, .int (iZ w))]) hx hb dX12_lays_139 hl (bl rfl) rfl (fun ls hl => ?_)
                    have HL4 : ∀ (fu : Nat) (o1 : Int) (Kf4 : Nat → Int32) (Lf4 : Nat → Int32) (Bf4 : Nat → Int32) (H : Heap) (locs : List Loc) (ls : Array Slot), (gz Af 0 + 1 - o1) < (fu : Int) → (0 ≤ o1 ∧ o1 ≤ gz Af 0) → (KR Kf4 6) → (rgI Lf4 (-1) 5 6) → (NWU (sh Af 10) (sh Af 46) (gz Af 1) (gz Af 0) x w (fun r => Tb z_8 r = true) nx o1 Kf4 Lf4 Bf4) → (rgI Bf4 0 (cc + 1) 6) → (0 ≤ gz Bf4 nx ∧ gz Bf4 nx ≤ cc) → va_P D vwCl [(hm, .inr (12, [.ref Ma, .ref Mn, .int (iZ Mst), .long Mtp, .long Mbt, .ref Ms, .ref My, .ref Mt, .ref Mp, .ref Mx, .int (iZ Mtd), .int (iZ Msz), .int (iZ Mtk), .int (iZ Mfr), .int (iZ Men), .int (iZ Mva), .int (iZ Mfk), .int (iZ Mfp), .int (iZ Mfs), .int (iZ Mse), .int (iZ Mlt), .ref Mo, .int (iZ Mdp), .int (iZ Mct), .ref Mk, .ref Ml, .ref Mb, .ref Mh, .ref Mc, .int (iZ Mdr), .int (iZ Mrs), .ref Mz, .ref Mr, .ref Mq, .int (iZ Mit), .int (iZ Mmk)])), (Ma, .inl (k 1, 5340, .inl Af)), (Mk, .inl (k 1, 6, .inl Kf4)), (Ml, .inl (k 1, 6, .inl Lf4)), (Mb, .inl (k 1, 6, .inl Bf4))] H → va_D A [(hm, .inr (12, [.ref Ma, .ref Mn, .int (iZ Mst), .long Mtp, .long Mbt, .ref Ms, .ref My, .ref Mt, .ref Mp, .ref Mx, .int (iZ Mtd), .int (iZ Msz), .int (iZ Mtk), .int (iZ Mfr), .int (iZ Men), .int (iZ Mva), .int (iZ Mfk), .int (iZ Mfp), .int (iZ Mfs), .int (iZ Mse), .int (iZ Mlt), .ref Mo, .int (iZ Mdp), .int (iZ Mct), .ref Mk, .ref Ml, .ref Mb, .ref Mh, .ref Mc, .int (iZ Mdr), .int (iZ Mrs), .ref Mz, .ref Mr, .ref Mq, .int (iZ Mit), .int (iZ Mmk)])), (Ma, .inl (k 1, 5340, .inl Af)), (Mk, .inl (k 1, 6, .inl Kf4)), (Ml, .inl (k 1, 6, .inl Lf4)), (Mb, .inl (k 1, 6, .inl Bf4))] → va_S A s.heap H locs → lv_has ls 7 [(5, .int (iZ o1)), (3, .int (iZ z_8)), (4, .int (iZ nx)), (0, .ref hm), (1, .int (iZ x)), (2, .int (iZ w))] → W p l e (rj 5 0 0) s m [.ref hm, .int (iZ x), .int (iZ w)].toArray below meth c H locs 0 0 (MQ below (QW (σ := ((Int) × (Int64) × ((Nat → Int32) × (Nat → Int32) × (Nat → Int32)) × (Unit))) (fun _ => none) (fun u => (KR u.2.2.1.1 6) ∧ (rgI u.2.2.1.2.1 (-1) 5 6) ∧ (isNW (arF (sh Af 10) (sh Af 46) (gz Af 1)) (gz Af 0) x w (gz u.2.2.1.1) (gz u.2.2.1.2.1) (gz u.2.2.1.2.2))) (fun u => [(hm, .inr (12, [.ref Ma, .ref Mn, .int (iZ Mst), .long Mtp, .long Mbt, .ref Ms, .ref My, .ref Mt, .ref Mp, .ref Mx, .int (iZ Mtd), .int (iZ Msz), .int (iZ Mtk), .int (iZ Mfr), .int (iZ Men), .int (iZ Mva), .int (iZ Mfk), .int (iZ Mfp), .int (iZ Mfs), .int (iZ Mse), .int (iZ Mlt), .ref Mo, .int (iZ Mdp), .int (iZ Mct), .ref Mk, .ref Ml, .ref Mb, .ref Mh, .ref Mc, .int (iZ Mdr), .int (iZ Mrs), .ref Mz, .ref Mr, .ref Mq, .int (iZ Mit), .int (iZ Mmk)])), (Ma, .inl (k 1, 5340, .inl Af)), (Mk, .inl (k 1, 6, .inl u.2.2.1.1)), (Ml, .inl (k 1, 6, .inl u.2.2.1.2.1)), (Mb, .inl (k 1, 6, .inl u.2.2.1.2.2))]) D A) [.ref hm, .int (iZ x), .int (iZ w)].toArray s 0 0 A) (F0 m 141 ls []) := by
                      intro fu
                      induction fu with
                      | zero => intro o1 Kf4 Lf4 Bf4 H locs ls hμ4 ho1 hk4 hl4 hnt hbr4 hbn4 hP hD hS hl; exact absurd hμ4 (by omega)
                      | succ fu ih4 =>
                        intro o1 Kf4 Lf4 Bf4 H locs ls hμ4 ho1 hk4 hl4 hnt hbr4 hbn4 hP hD hS hl
                        refine lv_iload hx hb dX12_lays_141 (lv_at hl 0 rfl) ?_
                        refine lv_aload_n hx hb dX12_lays_143 rfl (lv_at hl 3 rfl) ?_
                        refine va_get (D := D) (ci := 12) (v := .ref Ma) (C := RX12) (T := TX12) (N := 36) hx hb hts iX12 hown hK hP 0 rfl rfl 0 (bl rfl) (hts _ qf_X12_7) (fun _ h => h) rfl dX12_lays_144 ?_
                        refine lv_iconst (v := iZ 0) hx hb dX12_lays_147 rfl ?_
                        refine va_iald hx hb hK hP 1 1 rfl rfl (zin (e := 0) (n := 5340) ⟨by omega, by omega⟩ (bl rfl)) dX12_lays_148 ?_
                        refine lv_topi (fun x_10 ex_10 => ?_)
                        obtain rfl : x_10 = iZ (gz Af 0) := ex_10.trans (gz_eq ⟨by omega, by omega⟩)
                        have h_11 := gz_rg Af 0
                        refine lv_icmp_ge (tgt := 265) hx hb dX12_lays_149 rfl (fun c_12 => ?_) (fun c_12 => ?_)
                        ·
                          have c_12 := (zle (x := iZ (gz Af 0)) (y := iZ o1) rfl rfl (gz_rg Af 0) ⟨by omega, by omega⟩).mp c_12
                          refine lv_goto (tgt := 53) hx hb dX12_lays_265 rfl ?_
                          exact ih2  z_8 Kf4 Lf4 Bf4 (cc + 1) _ _ _ (by omega) (show 0 ≤ z_8 ∧ z_8 < 64 from ⟨by omega, by omega⟩) (show KR Kf4 6 from hk4) (show rgI Lf4 (-1) 5 6 from hl4) (show NWR (sh Af 10) (sh Af 46) (gz Af 1) (gz Af 0) x w z_8 (cc + 1) Kf4 Lf4 Bf4 from ⟨nwI_e hnt (by omega), hbr4, ⟨by omega, by omega⟩, by omega⟩) (hP.sub [0, 1, 2, 3, 4] rfl) (hD.sub [0, 1, 2, 3, 4] rfl rfl) hS (lv_sub hl [1, 3, 4, 5] rfl)
                        ·
                          have c_12 := mt (zle (x := iZ (gz Af 0)) (y := iZ o1) rfl rfl (gz_rg Af 0) ⟨by omega, by omega⟩).mpr c_12
                          refine lv_aload_n hx hb dX12_lays_152 rfl (lv_at hl 3 rfl) ?_
                          refine lv_iload hx hb dX12_lays_153 (lv_at hl 2 rfl) ?_
                          refine lv_aload_n hx hb dX12_lays_155 rfl (lv_at hl 3 rfl) ?_
                          refine va_get (D := D) (ci := 12) (v := .ref Mk) (C := RX12) (T := TX12) (N := 36) hx hb hts iX12 hown hK hP 0 rfl rfl 24 (bl rfl) (hts _ qf_X12_47) (fun _ h => h) rfl dX12_lays_156 ?_
                          refine lv_iload hx hb dX12_lays_159 (lv_at hl 2 rfl) ?_
                          refine va_iald hx hb hK hP 2 1 rfl rfl (zin (e := nx) (n := 6) ⟨by omega, by omega⟩ (bl rfl)) dX12_lays_161 ?_
                          refine lv_topi (fun x_13 ex_13 => ?_)
                          obtain rfl : x_13 = iZ (gz Kf4 nx) := ex_13.trans (gz_eq ⟨by omega, by omega⟩)
                          have h_14 := hk4 nx (by omega) (by omega)
                          refine lv_iload hx hb dX12_lays_162 (lv_at hl 0 rfl) ?_
                          refine CPV (As := [.int (iZ nx), .int (iZ (gz Kf4 nx)), .int (iZ o1)]) (rest := []) hx hb hml hown hts hKK (hP.sub (ws' := [(hm, .inr (12, [.ref Ma, .ref Mn, .int (iZ Mst), .long Mtp, .long Mbt, .ref Ms, .ref My, .ref Mt, .ref Mp, .ref Mx, .int (iZ Mtd), .int (iZ Msz), .int (iZ Mtk), .int (iZ Mfr), .int (iZ Men), .int (iZ Mva), .int (iZ Mfk), .int (iZ Mfp), .int (iZ Mfs), .int (iZ Mse), .int (iZ Mlt), .ref Mo, .int (iZ Mdp), .int (iZ Mct), .ref Mk, .ref Ml, .ref Mb, .ref Mh, .ref Mc, .int (iZ Mdr), .int (iZ Mrs), .ref Mz, .ref Mr, .ref Mq, .int (iZ Mit), .int (iZ Mmk)])), (Ma, .inl (k 1, 5340, .inl Af))]) [0, 1] rfl) (m_arrival l D k ([.ref Ma, .ref Mn, .int (iZ Mst), .long Mtp, .long Mbt, .ref Ms, .ref My, .ref Mt, .ref Mp, .ref Mx, .int (iZ Mtd), .int (iZ Msz), .int (iZ Mtk), .int (iZ Mfr), .int (iZ Men), .int (iZ Mva), .int (iZ Mfk), .int (iZ Mfp), .int (iZ Mfs), .int (iZ Mse), .int (iZ Mlt), .ref Mo, .int (iZ Mdp), .int (iZ Mct), .ref Mk, .ref Ml, .ref Mb, .ref Mh, .ref Mc, .int (iZ Mdr), .int (iZ Mrs), .ref Mz, .ref Mr, .ref Mq, .int (iZ Mit), .int (iZ Mmk)]) hm Ma Af nx (gz Kf4 nx) o1 rfl hM ⟨by omega, by omega⟩ ⟨by omega, by omega⟩ ⟨by omega, by omega⟩) ci_X12_arrival qm_X12_280 ⟨Nat.le_of_ble_eq_true rfl, Nat.le_of_ble_eq_true rfl⟩ ⟨Nat.le_of_ble_eq_true rfl, Nat.le_of_ble_eq_true rfl⟩ 0 rfl rfl rfl hl.1 rfl (Nat.le_of_ble_eq_true rfl) dX12_lays_164 (fun z_15 hz_15 => ?_)
                          obtain ⟨ez_15, az_15⟩ := hz_15
                          refine lv_istore (lv' := [(6, .int (iZ z_15)), (5, .int (iZ o1)), (3, .int (iZ z_8)), (4, .int (iZ nx)), (0, .ref hm), (1, .int (iZ x)), (2, .int (iZ w))]) hx hb dX12_lays_167 hl (bl rfl) rfl (fun ls hl => ?_)
                          refine lv_iload_n hx hb dX12_lays_169 rfl (lv_at hl 2 rfl) ?_
                          refine lv_iload hx hb dX12_lays_170 (lv_at hl 1 rfl) ?_
                          refine lv_ishr hx hb dX12_lays_172 ?_
                          refine lv_topi (fun x_17 ex_17 => ?_)
                          obtain ⟨z_16, hz_16, hz_16a, hz_16b⟩ := i32_z x_17
                          subst hz_16
                          refine lv_iconst (v := iZ 1) hx hb dX12_lays_173 rfl ?_
                          refine lv_iand hx hb dX12_lays_174 ?_
                          refine lv_topi (fun x_19 ex_19 => ?_)
                          obtain ⟨z_18, hz_18, hz_18a, hz_18b⟩ := i32_z x_19
                          subst hz_18
                          refine lv_iconst (v := iZ 1) hx hb dX12_lays_175 rfl ?_
                          have w01_z_18 := (wi_fin ex_17 ex_19 ⟨hz_18a, hz_18b⟩).2
                          refine lv_icmp_eq (tgt := 259) hx hb dX12_lays_176 rfl (fun c_20 => ?_) (fun c_20 => ?_)
                          ·
                            have c_20 := (zeq (x := iZ z_18) (y := iZ 1) rfl rfl ⟨by omega, by omega⟩ wn_1).mp c_20
                            refine lv_iinc (v := iZ (o1 + 1)) (lv' := [(5, .int (iZ (o1 + 1))), (6, .int (iZ z_15)), (3, .int (iZ z_8)), (4, .int (iZ nx)), (0, .ref hm), (1, .int (iZ x)), (2, .int (iZ w))]) hx hb dX12_lays_259 hl (k := 1) rfl (iZ_add o1 1) (by decide) rfl (fun ls hl => ?_)
                            refine lv_goto (tgt := 141) hx hb dX12_lays_262 rfl ?_
                            exact ih4  (o1 + 1) Kf4 Lf4 Bf4 _ _ _ (by omega) (show 0 ≤ (o1 + 1) ∧ (o1 + 1) ≤ gz Af 0 from ⟨by omega, by omega⟩) (show KR Kf4 6 from hk4) (show rgI Lf4 (-1) 5 6 from hl4) (show NWU (sh Af 10) (sh Af 46) (gz Af 1) (gz Af 0) x w (fun r => Tb z_8 r = true) nx (o1 + 1) Kf4 Lf4 Bf4 from (tr_n hnt mF m0.2 ⟨by omega, by omega⟩ htp ⟨by omega, by omega⟩ rfl (by first | exact Or.inl (bt_no ex_17 ex_19 ⟨hz_18a, hz_18b⟩ (by omega)) | exact Or.inr (by omega)))) (show rgI Bf4 0 (cc + 1) 6 from hbr4) (show 0 ≤ gz Bf4 nx ∧ gz Bf4 nx ≤ cc from hbn4) (hP.sub [0, 1, 2, 3, 4] rfl) (hD.sub [0, 1, 2, 3, 4] rfl rfl) hS (lv_sub hl [0, 2, 3, 4, 5, 6] rfl)
                          ·
                            have c_20 := mt (zeq (x := iZ z_18) (y := iZ 1) rfl rfl ⟨by omega, by omega⟩ wn_1).mpr c_20
                            refine lv_iload hx hb dX12_lays_179 (lv_at hl 0 rfl) ?_
                            refine lv_aload_n hx hb dX12_lays_181 rfl (lv_at hl 4 rfl) ?_
                            refine va_get (D := D) (ci := 12) (v := .ref Mk) (C := RX12) (T := TX12) (N := 36) hx hb hts iX12 hown hK hP 0 rfl rfl 24 (bl rfl) (hts _ qf_X12_47) (fun _ h => h) rfl dX12_lays_182 ?_
                            refine lv_iload hx hb dX12_lays_185 (lv_at hl 1 rfl) ?_
                            refine va_iald hx hb hK hP 2 1 rfl rfl (zin (e := o1) (n := 6) ⟨by omega, by omega⟩ (bl rfl)) dX12_lays_187 ?_
                            refine lv_topi (fun x_21 ex_21 => ?_)
                            obtain rfl : x_21 = iZ (gz Kf4 o1) := ex_21.trans (gz_eq ⟨by omega, by omega⟩)
                            have h_22 := hk4 o1 (by omega) (by omega)
                            refine lv_icmp_gt (tgt := 259) hx hb dX12_lays_188 rfl (fun c_23 => ?_) (fun c_23 => ?_)
                            ·
                              have c_23 := (zlt (x := iZ (gz Kf4 o1)) (y := iZ z_15) rfl rfl (gz_rg Kf4 o1) ⟨by omega, by omega⟩).mp c_23
                              refine lv_iinc (v := iZ (o1 + 1)) (lv' := [(5, .int (iZ (o1 + 1))), (6, .int (iZ z_15)), (3, .int (iZ z_8)), (4, .int (iZ nx)), (0, .ref hm), (1, .int (iZ x)), (2, .int (iZ w))]) hx hb dX12_lays_259 hl (k := 1) rfl (iZ_add o1 1) (by decide) rfl (fun ls hl => ?_)
                              refine lv_goto (tgt := 141) hx hb dX12_lays_262 rfl ?_
                              exact ih4  (o1 + 1) Kf4 Lf4 Bf4 _ _ _ (by omega) (show 0 ≤ (o1 + 1) ∧ (o1 + 1) ≤ gz Af 0 from ⟨by omega, by omega⟩) (show KR Kf4 6 from hk4) (show rgI Lf4 (-1) 5 6 from hl4) (show NWU (sh Af 10) (sh Af 46) (gz Af 1) (gz Af 0) x w (fun r => Tb z_8 r = true) nx (o1 + 1) Kf4 Lf4 Bf4 from (tr_n hnt mF m0.2 ⟨by omega, by omega⟩ htp ⟨by omega, by omega⟩ rfl (by first | exact Or.inl (bt_no ex_17 ex_19 ⟨hz_18a, hz_18b⟩ (by omega)) | exact Or.inr (by omega)))) (show rgI Bf4 0 (cc + 1) 6 from hbr4) (show 0 ≤ gz Bf4 nx ∧ gz Bf4 nx ≤ cc from hbn4) (hP.sub [0, 1, 2, 3, 4] rfl) (hD.sub [0, 1, 2, 3, 4] rfl rfl) hS (lv_sub hl [0, 2, 3, 4, 5, 6] rfl)
                            ·
                              have c_23 := mt (zlt (x := iZ (gz Kf4 o1)) (y := iZ z_15) rfl rfl (gz_rg Kf4 o1) ⟨by omega, by omega⟩).mpr c_23
                              refine lv_iload hx hb dX12_lays_191 (lv_at hl 0 rfl) ?_
                              refine lv_ldc (own := RX12) (v := 1000000) hx hb hown (hts _ qk_X12_88) dX12_lays_193 ?_
                              refine W.eq (g2 := F0 m 195 ls [.int (iZ 1000000), .int (iZ z_15)]) rfl ?_
                              refine lv_icmp_eq (tgt := 259) hx hb dX12_lays_195 rfl (fun c_24 => ?_) (fun c_24 => ?_)
                              ·
                                have c_24 := (zeq (x := iZ z_15) (y := iZ 1000000) rfl rfl ⟨by omega, by omega⟩ wn_1000000).mp c_24
                                refine lv_iinc (v := iZ (o1 + 1)) (lv' := [(5, .int (iZ (o1 + 1))), (6, .int (iZ z_15)), (3, .int (iZ z_8)), (4, .int (iZ nx)), (0, .ref hm), (1, .int (iZ x)), (2, .int (iZ w))]) hx hb dX12_lays_259 hl (k := 1) rfl (iZ_add o1 1) (by decide) rfl (fun ls hl => ?_)
                                refine lv_goto (tgt := 141) hx hb dX12_lays_262 rfl ?_
                                exact ih4  (o1 + 1) Kf4 Lf4 Bf4 _ _ _ (by omega) (show 0 ≤ (o1 + 1) ∧ (o1 + 1) ≤ gz Af 0 from ⟨by omega, by omega⟩) (show KR Kf4 6 from hk4) (show rgI Lf4 (-1) 5 6 from hl4) (show NWU (sh Af 10) (sh Af 46) (gz Af 1) (gz Af 0) x w (fun r => Tb z_8 r = true) nx (o1 + 1) Kf4 Lf4 Bf4 from (tr_n hnt mF m0.2 ⟨by omega, by omega⟩ htp ⟨by omega, by omega⟩ rfl (by first | exact Or.inl (bt_no ex_17 ex_19 ⟨hz_18a, hz_18b⟩ (by omega)) | exact Or.inr (by omega)))) (show rgI Bf4 0 (cc + 1) 6 from hbr4) (show 0 ≤ gz Bf4 nx ∧ gz Bf4 nx ≤ cc from hbn4) (hP.sub [0, 1, 2, 3, 4] rfl) (hD.sub [0, 1, 2, 3, 4] rfl rfl) hS (lv_sub hl [0, 2, 3, 4, 5, 6] rfl)
                              ·
                                have c_24 := mt (zeq (x := iZ z_15) (y := iZ 1000000) rfl rfl ⟨by omega, by omega⟩ wn_1000000).mpr c_24
                                refine lv_iload hx hb dX12_lays_198 (lv_at hl 0 rfl) ?_
                                refine lv_aload_n hx hb dX12_lays_200 rfl (lv_at hl 4 rfl) ?_
                                refine va_get (D := D) (ci := 12) (v := .ref Mk) (C := RX12) (T := TX12) (N := 36) hx hb hts iX12 hown hK hP 0 rfl rfl 24 (bl rfl) (hts _ qf_X12_47) (fun _ h => h) rfl dX12_lays_201 ?_
                                refine lv_iload hx hb dX12_lays_204 (lv_at hl 1 rfl) ?_
                                refine va_iald hx hb hK hP 2 1 rfl rfl (zin (e := o1) (n := 6) ⟨by omega, by omega⟩ (bl rfl)) dX12_lays_206 ?_
                                refine lv_topi (fun x_25 ex_25 => ?_)
                                obtain rfl : x_25 = iZ (gz Kf4 o1) := ex_25.trans (gz_eq ⟨by omega, by omega⟩)
                                have h_26 := hk4 o1 (by omega) (by omega)
                                refine lv_icmp_ne (tgt := 225) hx hb dX12_lays_207 rfl (fun c_27 => ?_) (fun c_27 => ?_)
                                ·
                                  have c_27 := mt (zeq (x := iZ z_15) (y := iZ (gz Kf4 o1)) rfl rfl ⟨by omega, by omega⟩ (gz_rg Kf4 o1)).mpr c_27
                                  refine lv_aload_n hx hb dX12_lays_225 rfl (lv_at hl 4 rfl) ?_
                                  refine va_get (D := D) (ci := 12) (v := .ref Mk) (C := RX12) (T := TX12) (N := 36) hx hb hts iX12 hown hK hP 0 rfl rfl 24 (bl rfl) (hts _ qf_X12_47) (fun _ h => h) rfl dX12_lays_226 ?_
                                  refine lv_iload hx hb dX12_lays_229 (lv_at hl 1 rfl) ?_
                                  refine lv_iload hx hb dX12_lays_231 (lv_at hl 0 rfl) ?_
                                  refine va_iast hx hb hK hP hD hS 2 1 rfl rfl (zin (e := o1) (n := 6) ⟨by omega, by omega⟩ (bl rfl)) dX12_lays_233 (fun H locs hP hD hS => ?_)
                                  obtain ⟨f_28, hf_28⟩ : ∃ gg9, gg9 = upd Kf4 (iZ o1).toNatClampNeg (iZ z_15) := ⟨_, rfl⟩
                                  rw [← hf_28] at hP hD
                                  have rgf_28 := KR.up hk4 hf_28 ⟨by omega, by omega⟩ (by omega)
                                  refine lv_aload_n hx hb dX12_lays_234 rfl (lv_at hl 4 rfl) ?_
                                  refine va_get (D := D) (ci := 12) (v := .ref Ml) (C := RX12) (T := TX12) (N := 36) hx hb hts iX12 hown hK hP 0 rfl rfl 25 (bl rfl) (hts _ qf_X12_50) (fun _ h => h) rfl dX12_lays_235 ?_
                                  refine lv_iload hx hb dX12_lays_238 (lv_at hl 1 rfl) ?_
                                  refine lv_iload hx hb dX12_lays_240 (lv_at hl 3 rfl) ?_
                                  refine va_iast hx hb hK hP hD hS 3 1 rfl rfl (zin (e := o1) (n := 6) ⟨by omega, by omega⟩ (bl rfl)) dX12_lays_242 (fun H locs hP hD hS => ?_)
                                  obtain ⟨f_29, hf_29⟩ : ∃ gg9, gg9 = upd Lf4 (iZ o1).toNatClampNeg (iZ nx) := ⟨_, rfl⟩
                                  rw [← hf_29] at hP hD
                                  have rgf_29 := rg_upd hl4 hf_29 (by omega) ⟨by omega, by omega⟩ ⟨by omega, by omega⟩
                                  refine lv_aload_n hx hb dX12_lays_243 rfl (lv_at hl 4 rfl) ?_
                                  refine va_get (D := D) (ci := 12) (v := .ref Mb) (C := RX12) (T := TX12) (N := 36) hx hb hts iX12 hown hK hP 0 rfl rfl 26 (bl rfl) (hts _ qf_X12_53) (fun _ h => h) rfl dX12_lays_244 ?_
                                  refine lv_iload hx hb dX12_lays_247 (lv_at hl 1 rfl) ?_
                                  refine lv_aload_n hx hb dX12_lays_249 rfl (lv_at hl 4 rfl) ?_
                                  refine va_get (D := D) (ci := 12) (v := .ref Mb) (C := RX12) (T := TX12) (N := 36) hx hb hts iX12 hown hK hP 0 rfl rfl 26 (bl rfl) (hts _ qf_X12_53) (fun _ h => h) rfl dX12_lays_250 ?_
                                  refine lv_iload hx hb dX12_lays_253 (lv_at hl 3 rfl) ?_
                                  refine va_iald hx hb hK hP 4 1 rfl rfl (zin (e := nx) (n := 6) ⟨by omega, by omega⟩ (bl rfl)) dX12_lays_255 ?_
                                  refine lv_topi (fun x_30 ex_30 => ?_)
                                  obtain rfl : x_30 = iZ (gz Bf4 nx) := ex_30.trans (gz_eq ⟨by omega, by omega⟩)
                                  have h_31 := gz_rg Bf4 nx
                                  refine lv_iconst (v := iZ 1) hx hb dX12_lays_256 rfl ?_
                                  refine lv_iadd hx hb dX12_lays_257 ?_
                                  refine lv_topi (fun x_32 ex_32 => ?_)
                                  obtain rfl : x_32 = iZ ((gz Bf4 nx) + 1) := ex_32.trans (iZ_add (gz Bf4 nx) 1)
                                  refine va_iast hx hb hK hP hD hS 4 1 rfl rfl (zin (e := o1) (n := 6) ⟨by omega, by omega⟩ (bl rfl)) dX12_lays_258 (fun H locs hP hD hS => ?_)
                                  obtain ⟨f_33, hf_33⟩ : ∃ gg9, gg9 = upd Bf4 (iZ o1).toNatClampNeg (iZ ((gz Bf4 nx) + 1)) := ⟨_, rfl⟩
                                  rw [← hf_33] at hP hD
                                  refine lv_iinc (v := iZ (o1 + 1)) (lv' := [(5, .int (iZ (o1 + 1))), (6, .int (iZ z_15)), (3, .int (iZ z_8)), (4, .int (iZ nx)), (0, .ref hm), (1, .int (iZ x)), (2, .int (iZ w))]) hx hb dX12_lays_259 hl (k := 1) rfl (iZ_add o1 1) (by decide) rfl (fun ls hl => ?_)
                                  refine lv_goto (tgt := 141) hx hb dX12_lays_262 rfl ?_
                                  exact ih4  (o1 + 1) f_28 f_29 f_33 _ _ _ (by omega) (show 0 ≤ (o1 + 1) ∧ (o1 + 1) ≤ gz Af 0 from ⟨by omega, by omega⟩) (show KR f_28 6 from rgf_28) (show rgI f_29 (-1) 5 6 from rgf_29) (show NWU (sh Af 10) (sh Af 46) (gz Af 1) (gz Af 0) x w (fun r => Tb z_8 r = true) nx (o1 + 1) f_28 f_29 f_33 from (tr_u hnt mF m0.2 h9x ⟨by omega, by omega⟩ htp ⟨by omega, by omega⟩ ez_15 (bt_of ex_17 ex_19 (by omega)) (by omega) (by omega) (by omega) ⟨by omega, by omega⟩ rfl ⟨by omega, by omega⟩ hf_28 hf_29 hf_33)) (show rgI f_33 0 (cc + 1) 6 from (fun e9 h1 h2 => by rw [gz_up hf_33 ⟨by omega, by omega⟩ ⟨by omega, by omega⟩ h1]; have d9 := hbr4 e9 h1 h2; split <;> omega)) (show 0 ≤ gz f_33 nx ∧ gz f_33 nx ≤ cc from (by rw [gz_up hf_33 ⟨by omega, by omega⟩ ⟨by omega, by omega⟩ (by omega), if_neg (fun e9 => (Tb_iff.mp htp).2 (by rw [e9]; exact bt_of ex_17 ex_19 (by omega)))]; exact hbn4)) (hP.sub [0, 1, 2, 3, 4] rfl) (hD.sub [0, 1, 2, 3, 4] rfl rfl) hS (lv_sub hl [0, 2, 3, 4, 5, 6] rfl)
                                ·
                                  have c_27 := (zeq (x := iZ z_15) (y := iZ (gz Kf4 o1)) rfl rfl ⟨by omega, by omega⟩ (gz_rg Kf4 o1)).mp c_27
                                  refine lv_iload hx hb dX12_lays_210 (lv_at hl 3 rfl) ?_
                                  refine lv_aload_n hx hb dX12_lays_212 rfl (lv_at hl 4 rfl) ?_
                                  refine va_get (D := D) (ci := 12) (v := .ref Ml) (C := RX12) (T := TX12) (N := 36) hx hb hts iX12 hown hK hP 0 rfl rfl 25 (bl rfl) (hts _ qf_X12_50) (fun _ h => h) rfl dX12_lays_213 ?_
                                  refine lv_iload hx hb dX12_lays_216 (lv_at hl 1 rfl) ?_
                                  refine va_iald hx hb hK hP 3 1 rfl rfl (zin (e := o1) (n := 6) ⟨by omega, by omega⟩ (bl rfl)) dX12_lays_218 ?_
                                  refine lv_topi (fun x_34 ex_34 => ?_)
                                  obtain rfl : x_34 = iZ (gz Lf4 o1) := ex_34.trans (gz_eq ⟨by omega, by omega⟩)
                                  have h_35 := hl4 o1 (by omega) (by omega)
                                  refine lv_icmp_le (tgt := 225) hx hb dX12_lays_219 rfl (fun c_36 => ?_) (fun c_36 => ?_)
                                  ·
                                    have c_36 := (zle (x := iZ nx) (y := iZ (gz Lf4 o1)) rfl rfl ⟨by omega, by omega⟩ (gz_rg Lf4 o1)).mp c_36
                                    refine lv_aload_n hx hb dX12_lays_225 rfl (lv_at hl 4 rfl) ?_
                                    refine va_get (D := D) (ci := 12) (v := .ref Mk) (C := RX12) (T := TX12) (N := 36) hx hb hts iX12 hown hK hP 0 rfl rfl 24 (bl rfl) (hts _ qf_X12_47) (fun _ h => h) rfl dX12_lays_226 ?_
                                    refine lv_iload hx hb dX12_lays_229 (lv_at hl 1 rfl) ?_
                                    refine lv_iload hx hb dX12_lays_231 (lv_at hl 0 rfl) ?_
                                    refine va_iast hx hb hK hP hD hS 2 1 rfl rfl (zin (e := o1) (n := 6) ⟨by omega, by omega⟩ (bl rfl)) dX12_lays_233 (fun H locs hP hD hS => ?_)
                                    obtain ⟨f_37, hf_37⟩ : ∃ gg9, gg9 = upd Kf4 (iZ o1).toNatClampNeg (iZ z_15) := ⟨_, rfl⟩
                                    rw [← hf_37] at hP hD
                                    have rgf_37 := KR.up hk4 hf_37 ⟨by omega, by omega⟩ (by omega)
                                    refine lv_aload_n hx hb dX12_lays_234 rfl (lv_at hl 4 rfl) ?_
                                    refine va_get (D := D) (ci := 12) (v := .ref Ml) (C := RX12) (T := TX12) (N := 36) hx hb hts iX12 hown hK hP 0 rfl rfl 25 (bl rfl) (hts _ qf_X12_50) (fun _ h => h) rfl dX12_lays_235 ?_
                                    refine lv_iload hx hb dX12_lays_238 (lv_at hl 1 rfl) ?_
                                    refine lv_iload hx hb dX12_lays_240 (lv_at hl 3 rfl) ?_
                                    refine va_iast hx hb hK hP hD hS 3 1 rfl rfl (zin (e := o1) (n := 6) ⟨by omega, by omega⟩ (bl rfl)) dX12_lays_242 (fun H locs hP hD hS => ?_)
                                    obtain ⟨f_38, hf_38⟩ : ∃ gg9, gg9 = upd Lf4 (iZ o1).toNatClampNeg (iZ nx) := ⟨_, rfl⟩
                                    rw [← hf_38] at hP hD
                                    have rgf_38 := rg_upd hl4 hf_38 (by omega) ⟨by omega, by omega⟩ ⟨by omega, by omega⟩
                                    refine lv_aload_n hx hb dX12_lays_243 rfl (lv_at hl 4 rfl) ?_
                                    refine va_get (D := D) (ci := 12) (v := .ref Mb) (C := RX12) (T := TX12) (N := 36) hx hb hts iX12 hown hK hP 0 rfl rfl 26 (bl rfl) (hts _ qf_X12_53) (fun _ h => h) rfl dX12_lays_244 ?_
                                    refine lv_iload hx hb dX12_lays_247 (lv_at hl 1 rfl) ?_
                                    refine lv_aload_n hx hb dX12_lays_249 rfl (lv_at hl 4 rfl) ?_
                                    refine va_get (D := D) (ci := 12) (v := .ref Mb) (C := RX12) (T := TX12) (N := 36) hx hb hts iX12 hown hK hP 0 rfl rfl 26 (bl rfl) (hts _ qf_X12_53) (fun _ h => h) rfl dX12_lays_250 ?_
                                    refine lv_iload hx hb dX12_lays_253 (lv_at hl 3 rfl) ?_
                                    refine va_iald hx hb hK hP 4 1 rfl rfl (zin (e := nx) (n := 6) ⟨by omega, by omega⟩ (bl rfl)) dX12_lays_255 ?_
                                    refine lv_topi (fun x_39 ex_39 => ?_)
                                    obtain rfl : x_39 = iZ (gz Bf4 nx) := ex_39.trans (gz_eq ⟨by omega, by omega⟩)
                                    have h_40 := gz_rg Bf4 nx
                                    refine lv_iconst (v := iZ 1) hx hb dX12_lays_256 rfl ?_
                                    refine lv_iadd hx hb dX12_lays_257 ?_
                                    refine lv_topi (fun x_41 ex_41 => ?_)
                                    obtain rfl : x_41 = iZ ((gz Bf4 nx) + 1) := ex_41.trans (iZ_add (gz Bf4 nx) 1)
                                    refine va_iast hx hb hK hP hD hS 4 1 rfl rfl (zin (e := o1) (n := 6) ⟨by omega, by omega⟩ (bl rfl)) dX12_lays_258 (fun H locs hP hD hS => ?_)
                                    obtain ⟨f_42, hf_42⟩ : ∃ gg9, gg9 = upd Bf4 (iZ o1).toNatClampNeg (iZ ((gz Bf4 nx) + 1)) := ⟨_, rfl⟩
                                    rw [← hf_42] at hP hD
                                    refine lv_iinc (v := iZ (o1 + 1)) (lv' := [(5, .int (iZ (o1 + 1))), (6, .int (iZ z_15)), (3, .int (iZ z_8)), (4, .int (iZ nx)), (0, .ref hm), (1, .int (iZ x)), (2, .int (iZ w))]) hx hb dX12_lays_259 hl (k := 1) rfl (iZ_add o1 1) (by decide) rfl (fun ls hl => ?_)
                                    refine lv_goto (tgt := 141) hx hb dX12_lays_262 rfl ?_
                                    exact ih4  (o1 + 1) f_37 f_38 f_42 _ _ _ (by omega) (show 0 ≤ (o1 + 1) ∧ (o1 + 1) ≤ gz Af 0 from ⟨by omega, by omega⟩) (show KR f_37 6 from rgf_37) (show rgI f_38 (-1) 5 6 from rgf_38) (show NWU (sh Af 10) (sh Af 46) (gz Af 1) (gz Af 0) x w (fun r => Tb z_8 r = true) nx (o1 + 1) f_37 f_38 f_42 from (tr_u hnt mF m0.2 h9x ⟨by omega, by omega⟩ htp ⟨by omega, by omega⟩ ez_15 (bt_of ex_17 ex_19 (by omega)) (by omega) (by omega) (by omega) ⟨by omega, by omega⟩ rfl ⟨by omega, by omega⟩ hf_37 hf_38 hf_42)) (show rgI f_42 0 (cc + 1) 6 from (fun e9 h1 h2 => by rw [gz_up hf_42 ⟨by omega, by omega⟩ ⟨by omega, by omega⟩ h1]; have d9 := hbr4 e9 h1 h2; split <;> omega)) (show 0 ≤ gz f_42 nx ∧ gz f_42 nx ≤ cc from (by rw [gz_up hf_42 ⟨by omega, by omega⟩ ⟨by omega, by omega⟩ (by omega), if_neg (fun e9 => (Tb_iff.mp htp).2 (by rw [e9]; exact bt_of ex_17 ex_19 (by omega)))]; exact hbn4)) (hP.sub [0, 1, 2, 3, 4] rfl) (hD.sub [0, 1, 2, 3, 4] rfl rfl) hS (lv_sub hl [0, 2, 3, 4, 5, 6] rfl)
                                  ·
                                    have c_36 := mt (zle (x := iZ nx) (y := iZ (gz Lf4 o1)) rfl rfl ⟨by omega, by omega⟩ (gz_rg Lf4 o1)).mpr c_36
                                    refine lv_goto (tgt := 259) hx hb dX12_lays_222 rfl ?_
                                    refine lv_iinc (v := iZ (o1 + 1)) (lv' := [(5, .int (iZ (o1 + 1))), (6, .int (iZ z_15)), (3, .int (iZ z_8)), (4, .int (iZ nx)), (0, .ref hm), (1, .int (iZ x)), (2, .int (iZ w))]) hx hb dX12_lays_259 hl (k := 1) rfl (iZ_add o1 1) (by decide) rfl (fun ls hl => ?_)
                                    refine lv_goto (tgt := 141) hx hb dX12_lays_262 rfl ?_
                                    exact ih4  (o1 + 1) Kf4 Lf4 Bf4 _ _ _ (by omega) (show 0 ≤ (o1 + 1) ∧ (o1 + 1) ≤ gz Af 0 from ⟨by omega, by omega⟩) (show KR Kf4 6 from hk4) (show rgI Lf4 (-1) 5 6 from hl4) (show NWU (sh Af 10) (sh Af 46) (gz Af 1) (gz Af 0) x w (fun r => Tb z_8 r = true) nx (o1 + 1) Kf4 Lf4 Bf4 from (tr_n hnt mF m0.2 ⟨by omega, by omega⟩ htp ⟨by omega, by omega⟩ rfl (by first | exact Or.inl (bt_no ex_17 ex_19 ⟨hz_18a, hz_18b⟩ (by omega)) | exact Or.inr (by omega)))) (show rgI Bf4 0 (cc + 1) 6 from hbr4) (show 0 ≤ gz Bf4 nx ∧ gz Bf4 nx ≤ cc from hbn4) (hP.sub [0, 1, 2, 3, 4] rfl) (hD.sub [0, 1, 2, 3, 4] rfl rfl) hS (lv_sub hl [0, 2, 3, 4, 5, 6] rfl)
                    exact HL4 8 0 Kf2 Lf2 Bf2 _ _ _ (by omega) (show 0 ≤ 0 ∧ 0 ≤ gz Af 0 from ⟨by omega, by omega⟩) (show KR Kf2 6 from hk2) (show rgI Lf2 (-1) 5 6 from hl2) (show NWU (sh Af 10) (sh Af 46) (gz Af 1) (gz Af 0) x w (fun r => Tb z_8 r = true) nx 0 Kf2 Lf2 Bf2 from hnt0) (show rgI Bf2 0 (cc + 1) 6 from (fun e9 h1 h2 => by have d9 := hnr.2.1 e9 h1 h2; omega)) (show 0 ≤ gz Bf2 nx ∧ gz Bf2 nx ≤ cc from hbn0) (hP.sub [0, 1, 2, 3, 4] rfl) (hD.sub [0, 1, 2, 3, 4] rfl rfl) hS (lv_sub hl [0, 1, 2, 3, 4, 5] rfl)
                  ·
                    have c_5 := (zeq (x := iZ nx) (y := iZ (-1)) rfl rfl ⟨by omega, by omega⟩ wn_m1).mp c_5
                    exact EWv hx hb hr hlocks hS (0, 0, (Kf2, Lf2, Bf2), ()) rfl ⟨(show KR Kf2 6 from hk2), (show rgI Lf2 (-1) 5 6 from hl2), (show isNW (arF (sh Af 10) (sh Af 46) (gz Af 1)) (gz Af 0) x w (gz Kf2) (gz Lf2) (gz Bf2) from (NWR_e hnr m0.2 (SR_m1 hsr2 (by omega))))⟩ (hP.sub [0, 1, 2, 3, 4] rfl) (hD.sub [0, 1, 2, 3, 4] rfl rfl) dX12_lays_130
                ·
                  have c_4 := mt (zle (x := iZ (gz Af 0)) (y := iZ r1) rfl rfl (gz_rg Af 0) ⟨by omega, by omega⟩).mpr c_4
                  refine lv_iload_n hx hb dX12_lays_70 rfl (lv_at hl 2 rfl) ?_
                  refine lv_iload hx hb dX12_lays_71 (lv_at hl 0 rfl) ?_
                  refine lv_ishr hx hb dX12_lays_73 ?_
                  refine lv_topi (fun x_44 ex_44 => ?_)
                  obtain ⟨z_43, hz_43, hz_43a, hz_43b⟩ := i32_z x_44
                  subst hz_43
                  refine lv_iconst (v := iZ 1) hx hb dX12_lays_74 rfl ?_
                  refine lv_iand hx hb dX12_lays_75 ?_
                  refine lv_topi (fun x_46 ex_46 => ?_)
                  obtain ⟨z_45, hz_45, hz_45a, hz_45b⟩ := i32_z x_46
                  subst hz_45
                  refine lv_if_ne (tgt := 118) hx hb dX12_lays_76 rfl (fun c_47 => ?_) (fun c_47 => ?_)
                  ·
                    have c_47 := mt (zeq (x := iZ z_45) (y := iZ 0) rfl rfl ⟨by omega, by omega⟩ wn_0).mpr c_47
                    refine lv_iinc (v := iZ (r1 + 1)) (lv' := [(5, .int (iZ (r1 + 1))), (4, .int (iZ nx)), (3, .int (iZ se)), (0, .ref hm), (1, .int (iZ x)), (2, .int (iZ w))]) hx hb dX12_lays_118 hl (k := 0) rfl (iZ_add r1 1) (by decide) rfl (fun ls hl => ?_)
                    refine lv_goto (tgt := 59) hx hb dX12_lays_121 rfl ?_
                    exact ih3  nx (r1 + 1) _ _ _ (by omega) (show 0 ≤ (r1 + 1) ∧ (r1 + 1) ≤ gz Af 0 from ⟨by omega, by omega⟩) (show -1 ≤ nx ∧ nx < gz Af 0 from ⟨by omega, by omega⟩) (show SR Kf2 se (r1 + 1) nx from (SR_n hsr (by first | exact Or.inl (Or.inr (bt_no ex_44 ex_46 ⟨hz_45a, hz_45b⟩ (by omega))) | exact Or.inl (Or.inl (by omega)) | exact Or.inr ⟨by omega, by omega⟩))) (hP.sub [0, 1, 2, 3, 4] rfl) (hD.sub [0, 1, 2, 3, 4] rfl rfl) hS (lv_sub hl [0, 1, 2, 3, 4, 5] rfl)
                  ·
                    have c_47 := (zeq (x := iZ z_45) (y := iZ 0) rfl rfl ⟨by omega, by omega⟩ wn_0).mp c_47
                    refine lv_aload_n hx hb dX12_lays_79 rfl (lv_at hl 3 rfl) ?_
                    refine va_get (D := D) (ci := 12) (v := .ref Mk) (C := RX12) (T := TX12) (N := 36) hx hb hts iX12 hown hK hP 0 rfl rfl 24 (bl rfl) (hts _ qf_X12_47) (fun _ h => h) rfl dX12_lays_80 ?_
                    refine lv_iload hx hb dX12_lays_83 (lv_at hl 0 rfl) ?_
                    refine va_iald hx hb hK hP 2 1 rfl rfl (zin (e := r1) (n := 6) ⟨by omega, by omega⟩ (bl rfl)) dX12_lays_85 ?_
                    refine lv_topi (fun x_48 ex_48 => ?_)
                    obtain rfl : x_48 = iZ (gz Kf2 r1) := ex_48.trans (gz_eq ⟨by omega, by omega⟩)
                    have h_49 := hk2 r1 (by omega) (by omega)
                    refine lv_ldc (own := RX12) (v := 1000000) hx hb hown (hts _ qk_X12_88) dX12_lays_86 ?_
                    refine W.eq (g2 := F0 m 88 ls [.int (iZ 1000000), .int (iZ (gz Kf2 r1))]) rfl ?_
                    refine lv_icmp_ge (tgt := 118) hx hb dX12_lays_88 rfl (fun c_50 => ?_) (fun c_50 => ?_)
                    ·
                      have c_50 := (zle (x := iZ 1000000) (y := iZ (gz Kf2 r1)) rfl rfl wn_1000000 (gz_rg Kf2 r1)).mp c_50
                      refine lv_iinc (v := iZ (r1 + 1)) (lv' := [(5, .int (iZ (r1 + 1))), (4, .int (iZ nx)), (3, .int (iZ se)), (0, .ref hm), (1, .int (iZ x)), (2, .int (iZ w))]) hx hb dX12_lays_118 hl (k := 0) rfl (iZ_add r1 1) (by decide) rfl (fun ls hl => ?_)
                      refine lv_goto (tgt := 59) hx hb dX12_lays_121 rfl ?_
                      exact ih3  nx (r1 + 1) _ _ _ (by omega) (show 0 ≤ (r1 + 1) ∧ (r1 + 1) ≤ gz Af 0 from ⟨by omega, by omega⟩) (show -1 ≤ nx ∧ nx < gz Af 0 from ⟨by omega, by omega⟩) (show SR Kf2 se (r1 + 1) nx from (SR_n hsr (by first | exact Or.inl (Or.inr (bt_no ex_44 ex_46 ⟨hz_45a, hz_45b⟩ (by omega))) | exact Or.inl (Or.inl (by omega)) | exact Or.inr ⟨by omega, by omega⟩))) (hP.sub [0, 1, 2, 3, 4] rfl) (hD.sub [0, 1, 2, 3, 4] rfl rfl) hS (lv_sub hl [0, 1, 2, 3, 4, 5] rfl)
                    ·
                      have c_50 := mt (zle (x := iZ 1000000) (y := iZ (gz Kf2 r1)) rfl rfl wn_1000000 (gz_rg Kf2 r1)).mpr c_50
                      refine lv_iload hx hb dX12_lays_91 (lv_at hl 1 rfl) ?_
                      refine lv_iconst (v := iZ (-1)) hx hb dX12_lays_93 rfl ?_
                      refine lv_icmp_eq (tgt := 114) hx hb dX12_lays_94 rfl (fun c_51 => ?_) (fun c_51 => ?_)
                      ·
                        have c_51 := (zeq (x := iZ nx) (y := iZ (-1)) rfl rfl ⟨by omega, by omega⟩ wn_m1).mp c_51
                        refine lv_iload hx hb dX12_lays_114 (lv_at hl 0 rfl) ?_
                        refine lv_istore (lv' := [(4, .int (iZ r1)), (5, .int (iZ r1)), (3, .int (iZ se)), (0, .ref hm), (1, .int (iZ x)), (2, .int (iZ w))]) hx hb dX12_lays_116 hl (bl rfl) rfl (fun ls hl => ?_)
                        refine lv_iinc (v := iZ (r1 + 1)) (lv' := [(5, .int (iZ (r1 + 1))), (4, .int (iZ r1)), (3, .int (iZ se)), (0, .ref hm), (1, .int (iZ x)), (2, .int (iZ w))]) hx hb dX12_lays_118 hl (k := 1) rfl (iZ_add r1 1) (by decide) rfl (fun ls hl => ?_)
                        refine lv_goto (tgt := 59) hx hb dX12_lays_121 rfl ?_
                        exact ih3  r1 (r1 + 1) _ _ _ (by omega) (show 0 ≤ (r1 + 1) ∧ (r1 + 1) ≤ gz Af 0 from ⟨by omega, by omega⟩) (show -1 ≤ r1 ∧ r1 < gz Af 0 from ⟨by omega, by omega⟩) (show SR Kf2 se (r1 + 1) r1 from (SR_u hsr (by omega) (by omega) (bt_of ex_44 ex_46 (by omega)) (by omega))) (hP.sub [0, 1, 2, 3, 4] rfl) (hD.sub [0, 1, 2, 3, 4] rfl rfl) hS (lv_sub hl [0, 1, 2, 3, 4, 5] rfl)
                      ·
                        have c_51 := mt (zeq (x := iZ nx) (y := iZ (-1)) rfl rfl ⟨by omega, by omega⟩ wn_m1).mpr c_51
                        refine lv_aload_n hx hb dX12_lays_97 rfl (lv_at hl 3 rfl) ?_
                        refine va_get (D := D) (ci := 12) (v := .ref Mk) (C := RX12) (T := TX12) (N := 36) hx hb hts iX12 hown hK hP 0 rfl rfl 24 (bl rfl) (hts _ qf_X12_47) (fun _ h => h) rfl dX12_lays_98 ?_
                        refine lv_iload hx hb dX12_lays_101 (lv_at hl 0 rfl) ?_
                        refine va_iald hx hb hK hP 2 1 rfl rfl (zin (e := r1) (n := 6) ⟨by omega, by omega⟩ (bl rfl)) dX12_lays_103 ?_
                        refine lv_topi (fun x_52 ex_52 => ?_)
                        obtain rfl : x_52 = iZ (gz Kf2 r1) := ex_52.trans (gz_eq ⟨by omega, by omega⟩)
                        have h_53 := hk2 r1 (by omega) (by omega)
                        refine lv_aload_n hx hb dX12_lays_104 rfl (lv_at hl 3 rfl) ?_
                        refine va_get (D := D) (ci := 12) (v := .ref Mk) (C := RX12) (T := TX12) (N := 36) hx hb hts iX12 hown hK hP 0 rfl rfl 24 (bl rfl) (hts _ qf_X12_47) (fun _ h => h) rfl dX12_lays_105 ?_
                        refine lv_iload hx hb dX12_lays_108 (lv_at hl 1 rfl) ?_
                        refine va_iald hx hb hK hP 2 1 rfl rfl (zin (e := nx) (n := 6) ⟨by omega, by omega⟩ (bl rfl)) dX12_lays_110 ?_
                        refine lv_topi (fun x_54 ex_54 => ?_)
                        obtain rfl : x_54 = iZ (gz Kf2 nx) := ex_54.trans (gz_eq ⟨by omega, by omega⟩)
                        have h_55 := hk2 nx (by omega) (by omega)
                        refine lv_icmp_ge (tgt := 118) hx hb dX12_lays_111 rfl (fun c_56 => ?_) (fun c_56 => ?_)
                        ·
                          have c_56 := (zle (x := iZ (gz Kf2 nx)) (y := iZ (gz Kf2 r1)) rfl rfl (gz_rg Kf2 nx) (gz_rg Kf2 r1)).mp c_56
                          refine lv_iinc (v := iZ (r1 + 1)) (lv' := [(5, .int (iZ (r1 + 1))), (4, .int (iZ nx)), (3, .int (iZ se)), (0, .ref hm), (1, .int (iZ x)), (2, .int (iZ w))]) hx hb dX12_lays_118 hl (k := 0) rfl (iZ_add r1 1) (by decide) rfl (fun ls hl => ?_)
                          refine lv_goto (tgt := 59) hx hb dX12_lays_121 rfl ?_
                          exact ih3  nx (r1 + 1) _ _ _ (by omega) (show 0 ≤ (r1 + 1) ∧ (r1 + 1) ≤ gz Af 0 from ⟨by omega, by omega⟩) (show -1 ≤ nx ∧ nx < gz Af 0 from ⟨by omega, by omega⟩) (show SR Kf2 se (r1 + 1) nx from (SR_n hsr (by first | exact Or.inl (Or.inr (bt_no ex_44 ex_46 ⟨hz_45a, hz_45b⟩ (by omega))) | exact Or.inl (Or.inl (by omega)) | exact Or.inr ⟨by omega, by omega⟩))) (hP.sub [0, 1, 2, 3, 4] rfl) (hD.sub [0, 1, 2, 3, 4] rfl rfl) hS (lv_sub hl [0, 1, 2, 3, 4, 5] rfl)
                        ·
                          have c_56 := mt (zle (x := iZ (gz Kf2 nx)) (y := iZ (gz Kf2 r1)) rfl rfl (gz_rg Kf2 nx) (gz_rg Kf2 r1)).mpr c_56
                          refine lv_iload hx hb dX12_lays_114 (lv_at hl 0 rfl) ?_
                          refine lv_istore (lv' := [(4, .int (iZ r1)), (5, .int (iZ r1)), (3, .int (iZ se)), (0, .ref hm), (1, .int (iZ x)), (2, .int (iZ w))]) hx hb dX12_lays_116 hl (bl rfl) rfl (fun ls hl => ?_)
                          refine lv_iinc (v := iZ (r1 + 1)) (lv' := [(5, .int (iZ (r1 + 1))), (4, .int (iZ r1)), (3, .int (iZ se)), (0, .ref hm), (1, .int (iZ x)), (2, .int (iZ w))]) hx hb dX12_lays_118 hl (k := 1) rfl (iZ_add r1 1) (by decide) rfl (fun ls hl => ?_)
                          refine lv_goto (tgt := 59) hx hb dX12_lays_121 rfl ?_
                          exact ih3  r1 (r1 + 1) _ _ _ (by omega) (show 0 ≤ (r1 + 1) ∧ (r1 + 1) ≤ gz Af 0 from ⟨by omega, by omega⟩) (show -1 ≤ r1 ∧ r1 < gz Af 0 from ⟨by omega, by omega⟩) (show SR Kf2 se (r1 + 1) r1 from (SR_u hsr (by omega) (by omega) (bt_of ex_44 ex_46 (by omega)) (by omega))) (hP.sub [0, 1, 2, 3, 4] rfl) (hD.sub [0, 1, 2, 3, 4] rfl rfl) hS (lv_sub hl [0, 1, 2, 3, 4, 5] rfl)
            exact HL3 8 (-1) 0 _ _ _ (by omega) (show 0 ≤ 0 ∧ 0 ≤ gz Af 0 from ⟨by omega, by omega⟩) (show -1 ≤ (-1) ∧ (-1) < gz Af 0 from ⟨by omega, by omega⟩) (show SR Kf2 se 0 (-1) from SR_0) (hP.sub [0, 1, 2, 3, 4] rfl) (hD.sub [0, 1, 2, 3, 4] rfl rfl) hS (lv_sub hl [0, 1, 2, 3, 4, 5] rfl)
        exact HL2 66 0 Kf1 Lf1 Bf1 0 _ _ _ (by omega) (show 0 ≤ 0 ∧ 0 < 64 from ⟨by omega, by omega⟩) (show KR Kf1 6 from hk1) (show rgI Lf1 (-1) 5 6 from hl1) (show NWR (sh Af 10) (sh Af 46) (gz Af 1) (gz Af 0) x w 0 0 Kf1 Lf1 Bf1 from (NWR_0 ⟨by omega, by omega⟩ h9x m0.2 hkx hlx hbx)) (hP.sub [0, 1, 2, 3, 4] rfl) (hD.sub [0, 1, 2, 3, 4] rfl rfl) hS (lv_sub hl [1, 2, 3, 4] rfl)
      ·
        have c_1 := mt (zle (x := iZ 6) (y := iZ i) rfl rfl wn_6 ⟨by omega, by omega⟩).mpr c_1
        refine lv_aload_n hx hb dX12_lays_12 rfl (lv_at hl 2 rfl) ?_
        refine va_get (D := D) (ci := 12) (v := .ref Mk) (C := RX12) (T := TX12) (N := 36) hx hb hts iX12 hown hK hP 0 rfl rfl 24 (bl rfl) (hts _ qf_X12_47) (fun _ h => h) rfl dX12_lays_13 ?_
        refine lv_iload hx hb dX12_lays_16 (lv_at hl 0 rfl) ?_
        refine lv_iload hx hb dX12_lays_18 (lv_at hl 0 rfl) ?_
        refine lv_iload_n hx hb dX12_lays_20 rfl (lv_at hl 3 rfl) ?_
        refine lv_icmp_ne (tgt := 28) hx hb dX12_lays_21 rfl (fun c_57 => ?_) (fun c_57 => ?_)
        ·
          have c_57 := mt (zeq (x := iZ i) (y := iZ x) rfl rfl ⟨by omega, by omega⟩ ⟨by omega, by omega⟩).mpr c_57
          refine lv_ldc (own := RX12) (v := 1000000) hx hb hown (hts _ qk_X12_88) dX12_lays_28 ?_
          refine W.eq (g2 := F0 m 30 ls [.int (iZ 1000000), .int (iZ i), .ref Mk]) rfl ?_
          refine va_iast hx hb hK hP hD hS 2 1 rfl rfl (zin (e := i) (n := 6) ⟨by omega, by omega⟩ (bl rfl)) dX12_lays_30 (fun H locs hP hD hS => ?_)
          obtain ⟨f_58, hf_58⟩ : ∃ gg9, gg9 = upd Kf1 (iZ i).toNatClampNeg (iZ 1000000) := ⟨_, rfl⟩
          rw [← hf_58] at hP hD
          refine lv_aload_n hx hb dX12_lays_31 rfl (lv_at hl 2 rfl) ?_
          refine va_get (D := D) (ci := 12) (v := .ref Ml) (C := RX12) (T := TX12) (N := 36) hx hb hts iX12 hown hK hP 0 rfl rfl 25 (bl rfl) (hts _ qf_X12_50) (fun _ h => h) rfl dX12_lays_32 ?_
          refine lv_iload hx hb dX12_lays_35 (lv_at hl 0 rfl) ?_
          refine lv_iconst (v := iZ (-1)) hx hb dX12_lays_37 rfl ?_
          refine va_iast hx hb hK hP hD hS 3 1 rfl rfl (zin (e := i) (n := 6) ⟨by omega, by omega⟩ (bl rfl)) dX12_lays_38 (fun H locs hP hD hS => ?_)
          obtain ⟨f_59, hf_59⟩ : ∃ gg9, gg9 = upd Lf1 (iZ i).toNatClampNeg (iZ (-1)) := ⟨_, rfl⟩
          rw [← hf_59] at hP hD
          refine lv_aload_n hx hb dX12_lays_39 rfl (lv_at hl 2 rfl) ?_
          refine va_get (D := D) (ci := 12) (v := .ref Mb) (C := RX12) (T := TX12) (N := 36) hx hb hts iX12 hown hK hP 0 rfl rfl 26 (bl rfl) (hts _ qf_X12_53) (fun _ h => h) rfl dX12_lays_40 ?_
          refine lv_iload hx hb dX12_lays_43 (lv_at hl 0 rfl) ?_
          refine lv_iconst (v := iZ 0) hx hb dX12_lays_45 rfl ?_
          refine va_iast hx hb hK hP hD hS 4 1 rfl rfl (zin (e := i) (n := 6) ⟨by omega, by omega⟩ (bl rfl)) dX12_lays_46 (fun H locs hP hD hS => ?_)
          obtain ⟨f_60, hf_60⟩ : ∃ gg9, gg9 = upd Bf1 (iZ i).toNatClampNeg (iZ 0) := ⟨_, rfl⟩
          rw [← hf_60] at hP hD
          refine lv_iinc (v := iZ (i + 1)) (lv' := [(4, .int (iZ (i + 1))), (3, .int (iZ 0)), (0, .ref hm), (1, .int (iZ x)), (2, .int (iZ w))]) hx hb dX12_lays_47 hl (k := 0) rfl (iZ_add i 1) (by decide) rfl (fun ls hl => ?_)
          refine lv_goto (tgt := 5) hx hb dX12_lays_50 rfl ?_
          exact ih1  (i + 1) f_58 f_59 f_60 _ _ _ (by omega) (show 0 ≤ (i + 1) ∧ (i + 1) ≤ 6 from ⟨by omega, by omega⟩) (show KR f_58 (i + 1) from (KR.ext hk1 hf_58 ⟨by omega, by omega⟩ (by omega))) (show rgI f_59 (-1) 5 (i + 1) from (rg_ext hl1 hf_59 ⟨by omega, by omega⟩ ⟨by omega, by omega⟩ ⟨by omega, by omega⟩)) (show xRw f_58 (fun o => if o = x then w else 1000000) (i + 1) from (xRw.ext hkx hf_58 ⟨by omega, by omega⟩ ⟨by omega, by omega⟩ (by first | exact (if_pos (by omega)).symm | exact (if_neg (by omega)).symm))) (show xRw f_59 (fun _ => -1) (i + 1) from (xRw.ext hlx hf_59 ⟨by omega, by omega⟩ ⟨by omega, by omega⟩ rfl)) (show xRw f_60 (fun _ => 0) (i + 1) from (xRw.ext hbx hf_60 ⟨by omega, by omega⟩ ⟨by omega, by omega⟩ rfl)) (hP.sub [0, 1, 2, 3, 4] rfl) (hD.sub [0, 1, 2, 3, 4] rfl rfl) hS (lv_sub hl [0, 1, 2, 3, 4] rfl)
        ·
          have c_57 := (zeq (x := iZ i) (y := iZ x) rfl rfl ⟨by omega, by omega⟩ ⟨by omega, by omega⟩).mp c_57
          refine lv_iload_n hx hb dX12_lays_24 rfl (lv_at hl 4 rfl) ?_
          refine lv_goto (tgt := 30) hx hb dX12_lays_25 rfl ?_
          refine va_iast hx hb hK hP hD hS 2 1 rfl rfl (zin (e := i) (n := 6) ⟨by omega, by omega⟩ (bl rfl)) dX12_lays_30 (fun H locs hP hD hS => ?_)
          obtain ⟨f_61, hf_61⟩ : ∃ gg9, gg9 = upd Kf1 (iZ i).toNatClampNeg (iZ w) := ⟨_, rfl⟩
          rw [← hf_61] at hP hD
          refine lv_aload_n hx hb dX12_lays_31 rfl (lv_at hl 2 rfl) ?_
          refine va_get (D := D) (ci := 12) (v := .ref Ml) (C := RX12) (T := TX12) (N := 36) hx hb hts iX12 hown hK hP 0 rfl rfl 25 (bl rfl) (hts _ qf_X12_50) (fun _ h => h) rfl dX12_lays_32 ?_
          refine lv_iload hx hb dX12_lays_35 (lv_at hl 0 rfl) ?_
          refine lv_iconst (v := iZ (-1)) hx hb dX12_lays_37 rfl ?_
          refine va_iast hx hb hK hP hD hS 3 1 rfl rfl (zin (e := i) (n := 6) ⟨by omega, by omega⟩ (bl rfl)) dX12_lays_38 (fun H locs hP hD hS => ?_)
          obtain ⟨f_62, hf_62⟩ : ∃ gg9, gg9 = upd Lf1 (iZ i).toNatClampNeg (iZ (-1)) := ⟨_, rfl⟩
          rw [← hf_62] at hP hD
          refine lv_aload_n hx hb dX12_lays_39 rfl (lv_at hl 2 rfl) ?_
          refine va_get (D := D) (ci := 12) (v := .ref Mb) (C := RX12) (T := TX12) (N := 36) hx hb hts iX12 hown hK hP 0 rfl rfl 26 (bl rfl) (hts _ qf_X12_53) (fun _ h => h) rfl dX12_lays_40 ?_
          refine lv_iload hx hb dX12_lays_43 (lv_at hl 0 rfl) ?_
          refine lv_iconst (v := iZ 0) hx hb dX12_lays_45 rfl ?_
          refine va_iast hx hb hK hP hD hS 4 1 rfl rfl (zin (e := i) (n := 6) ⟨by omega, by omega⟩ (bl rfl)) dX12_lays_46 (fun H locs hP hD hS => ?_)
          obtain ⟨f_63, hf_63⟩ : ∃ gg9, gg9 = upd Bf1 (iZ i).toNatClampNeg (iZ 0) := ⟨_, rfl⟩
          rw [← hf_63] at hP hD
          refine lv_iinc (v := iZ (i + 1)) (lv' := [(4, .int (iZ (i + 1))), (3, .int (iZ 0)), (0, .ref hm), (1, .int (iZ x)), (2, .int (iZ w))]) hx hb dX12_lays_47 hl (k := 0) rfl (iZ_add i 1) (by decide) rfl (fun ls hl => ?_)
          refine lv_goto (tgt := 5) hx hb dX12_lays_50 rfl ?_
          exact ih1  (i + 1) f_61 f_62 f_63 _ _ _ (by omega) (show 0 ≤ (i + 1) ∧ (i + 1) ≤ 6 from ⟨by omega, by omega⟩) (show KR f_61 (i + 1) from (KR.ext hk1 hf_61 ⟨by omega, by omega⟩ (by omega))) (show rgI f_62 (-1) 5 (i + 1) from (rg_ext hl1 hf_62 ⟨by omega, by omega⟩ ⟨by omega, by omega⟩ ⟨by omega, by omega⟩)) (show xRw f_61 (fun o => if o = x then w else 1000000) (i + 1) from (xRw.ext hkx hf_61 ⟨by omega, by omega⟩ ⟨by omega, by omega⟩ (by first | exact (if_pos (by omega)).symm | exact (if_neg (by omega)).symm))) (show xRw f_62 (fun _ => -1) (i + 1) from (xRw.ext hlx hf_62 ⟨by omega, by omega⟩ ⟨by omega, by omega⟩ rfl)) (show xRw f_63 (fun _ => 0) (i + 1) from (xRw.ext hbx hf_63 ⟨by omega, by omega⟩ ⟨by omega, by omega⟩ rfl)) (hP.sub [0, 1, 2, 3, 4] rfl) (hD.sub [0, 1, 2, 3, 4] rfl rfl) hS (lv_sub hl [0, 1, 2, 3, 4] rfl)
  exact HL1 8 0 Kf Lf Bf _ _ _ (by omega) (show 0 ≤ 0 ∧ 0 ≤ 6 from ⟨by omega, by omega⟩) (show KR Kf 0 from (fun e h1 h2 => absurd h1 (by omega))) (show rgI Lf (-1) 5 0 from (fun e h1 h2 => absurd h1 (by omega))) (show xRw Kf (fun o => if o = x then w else 1000000) 0 from xRw.n0) (show xRw Lf (fun _ => -1) 0 from xRw.n0) (show xRw Bf (fun _ => 0) 0 from xRw.n0) (hP.sub [0, 1, 2, 3, 4] rfl) (hD.sub [0, 1, 2, 3, 4] rfl rfl) hS (lv_sub hl [0, 1, 2, 3, 4] rfl)
