section
theorem sh_gz (A : Nat → Int32) {c e : Int} (hc : 0 ≤ c) (he : 0 ≤ e) : gz (sh A c) e = gz A (c + e) := by
  unfold gz sh
  rw [show (c + e).toNat = c.toNat + e.toNat by omega]
def st2 (A : Nat → Int32) (b : Int) : Nat → Int32 := fun i => A (b.toNat + 2 * i)
theorem st2_gz (A : Nat → Int32) {b e : Int} (hb : 0 ≤ b) (he : 0 ≤ e) : gz (st2 A b) e = gz A (b + 2 * e) := by
  unfold gz st2
  rw [show (b + 2 * e).toNat = b.toNat + 2 * e.toNat by omega]
/-- the reference's course, and that of a mark -/
def rL (A : Nat → Int32) : LS_ := cL (gz A 3) (gz A 4) (sh A 118) (st2 A 78) (st2 A 79)
def rLb (A : Nat → Int32) (b : Int) : LS_ := cL (gz A (b + 3)) (gz A (b + 4)) (sh A (b + 118)) (st2 A (b + 78)) (st2 A (b + 79))
noncomputable def eR (A : Nat → Int32) : EV_ := eC (sh A 10) (sh A 46) (gz A 0) (gz A 1) (gz A 2)
theorem rLb_like {A B : Nat → Int32} {b c : Int} (hb : 0 ≤ b) (hc : 0 ≤ c) (hw : 0 ≤ gz A (b + 3) ∧ gz A (b + 3) ≤ 400) (ho : 0 ≤ gz A (b + 4) ∧ gz A (b + 4) ≤ 20) (h : ∀ e : Int, 3 ≤ e → e < 520 → gz B (c + e) = gz A (b + e)) : rLb B c = rLb A b := cL_like (h 3 (by omega) (by omega)) (h 4 (by omega) (by omega))
  (fun e p q => by rw [sh_gz B (by omega) p, sh_gz A (by omega) p, show c + 118 + e = c + (118 + e) by omega, show b + 118 + e = b + (118 + e) by omega]; exact h _ (by omega) (by omega))
  (fun e p q => by rw [st2_gz B (by omega) p, st2_gz A (by omega) p, show c + 78 + 2 * e = c + (78 + 2 * e) by omega, show b + 78 + 2 * e = b + (78 + 2 * e) by omega]; exact h _ (by omega) (by omega))
  (fun e p q => by rw [st2_gz B (by omega) p, st2_gz A (by omega) p, show c + 79 + 2 * e = c + (79 + 2 * e) by omega, show b + 79 + 2 * e = b + (79 + 2 * e) by omega]; exact h _ (by omega) (by omega))
theorem rLb_0 (A : Nat → Int32) : rLb A 0 = rL A := rfl
theorem rL_like {A B : Nat → Int32} (hw : 0 ≤ gz A 3 ∧ gz A 3 ≤ 400) (ho : 0 ≤ gz A 4 ∧ gz A 4 ≤ 20) (h : ∀ e : Int, 3 ≤ e → e < 520 → gz B e = gz A e) : rL B = rL A := cL_like (h 3 (by omega) (by omega)) (h 4 (by omega) (by omega))
  (fun e p q => by rw [sh_gz B (by omega) p, sh_gz A (by omega) p]; exact h _ (by omega) (by omega))
  (fun e p q => by rw [st2_gz B (by omega) p, st2_gz A (by omega) p]; exact h _ (by omega) (by omega))
  (fun e p q => by rw [st2_gz B (by omega) p, st2_gz A (by omega) p]; exact h _ (by omega) (by omega))
theorem eC_like {f g F G : Nat → Int32} {n ni lw : Int} (hn : n ≤ 6) (h : ∀ e : Int, 0 ≤ e → e < 36 → gz f e = gz F e) (k : ∀ e : Int, 0 ≤ e → e < ni * 4 → gz g e = gz G e) : eC f g n ni lw = eC F G n ni lw := by
  have a : cAr f g n ni = cAr F G n ni := by
    funext r t o
    unfold cAr
    by_cases c : (0 ≤ r ∧ r < n) ∧ (0 ≤ o ∧ o < n)
    · rw [if_pos c, if_pos c]; exact arF_like h k ⟨c.1.1, by omega⟩ ⟨c.2.1, by omega⟩
    · rw [if_neg c, if_neg c]
  have b : cSn f g n ni = cSn F G n ni := by
    funext r o t
    unfold cSn
    by_cases c : (0 ≤ r ∧ r < n) ∧ (0 ≤ o ∧ o < n)
    · rw [if_pos c, if_pos c]; exact snF_like h k ⟨c.1.1, by omega⟩ ⟨c.2.1, by omega⟩
    · rw [if_neg c, if_neg c]
  have d : cRk f n = cRk F n := by
    funext r
    unfold cRk
    by_cases c : 0 ≤ r ∧ r < n
    · rw [if_pos c, if_pos c]; exact h _ (by omega) (by omega)
    · rw [if_neg c, if_neg c]
  unfold eC
  rw [a, b, d]
theorem eR_fr {A B : Nat → Int32} (h : M0 A) (k : FR B A) : eR B = eR A := by
  unfold eR
  rw [k.2.1, k.2.2.1, k.2.2.2]
  exact eC_like h.1.2 (fun e p q => by rw [sh_gz B (by omega) p, sh_gz A (by omega) p]; exact k.1 _ (by omega)) (fun e p q => by rw [sh_gz B (by omega) p, sh_gz A (by omega) p]; exact k.1 _ (by have := h.2.1; omega))
theorem eR_mv {A B : Nat → Int32} (h : M0 A) (k : ∀ e : Int, 0 ≤ e → e < 78 → gz B e = gz A e) : eR B = eR A := by
  unfold eR
  rw [k 0 (by omega) (by omega), k 1 (by omega) (by omega), k 2 (by omega) (by omega)]
  exact eC_like h.1.2 (fun e p q => by rw [sh_gz B (by omega) p, sh_gz A (by omega) p]; exact k _ (by omega) (by omega)) (fun e p q => by rw [sh_gz B (by omega) p, sh_gz A (by omega) p]; exact k _ (by omega) (by have := h.2.1; omega))
theorem eR_ske {n ni lw : Int} {f g A : Nat → Int32} (h : SKE n ni lw f g A 0) (hn : n ≤ 6) : eC f g n ni lw = eR A := by
  obtain ⟨h0, h1, h2⟩ := SKE.z h
  unfold eR
  rw [h0, h1, h2]
  exact eC_like hn (SKE.l h) (SKE.i h)
/-- a week goes by, all of a course -/
noncomputable def gsF (e : EV_) (L : LS_) : LS_ := if L.1 < 400 then (L.1 + 1, L.2.1, xUp L.2.2.1 (L.1 + 1) (nxV e L.1 L.2.2.1), L.2.2.2.1, L.2.2.2.2) else L
theorem plF_s {e : EV_} {L : LS_} {m : Int} (hm : 0 ≤ m) : plF e (m + 1) L = gsF e (plF e m L) := by
  unfold plF
  rw [psF_s hm]
  generalize psF e m (L.1, L.2.2.1) = c
  by_cases h : c.1 < 400
  · rw [wkF_y h]
    show _ = (if c.1 < 400 then (c.1 + 1, L.2.1, xUp c.2 (c.1 + 1) (nxV e c.1 c.2), L.2.2.2.1, L.2.2.2.2) else (c.1, L.2.1, c.2, L.2.2.2.1, L.2.2.2.2) : LS_)
    rw [if_pos h]
  · rw [wkF_n h]
    show _ = (if c.1 < 400 then (c.1 + 1, L.2.1, xUp c.2 (c.1 + 1) (nxV e c.1 c.2), L.2.2.2.1, L.2.2.2.2) else (c.1, L.2.1, c.2, L.2.2.2.1, L.2.2.2.2) : LS_)
    rw [if_neg h]
theorem plF_top {e : EV_} {L : LS_} {i m : Int} (hi : 0 ≤ i ∧ i ≤ m) (h : ¬ (plF e i L).1 < 400) : plF e m L = plF e i L := by
  unfold plF
  rw [psF_top hi h]
theorem rL_gs {e : EV_} {A g : Nat → Int32} {s : Int} (h3 : gz g 3 = gz A 3 + 1) (h4 : gz g 4 = gz A 4) (hw : 0 ≤ gz A 3 ∧ gz A 3 < 400) (ho : 0 ≤ gz A 4 ∧ gz A 4 ≤ 20) (hs : gz g (118 + (gz A 3 + 1)) = s) (hz : s = nxV e (gz A 3) (cut (gz A 3 + 1) (gz (sh A 118)))) (hk : ∀ j : Int, 78 ≤ j → ¬ j = 118 + (gz A 3 + 1) → gz g j = gz A j) : rL g = gsF e (rL A) := by
  subst hz
  have e1 : cut (gz A 3 + 1 + 1) (gz (sh g 118)) = xUp (cut (gz A 3 + 1) (gz (sh A 118))) (gz A 3 + 1) (nxV e (gz A 3) (cut (gz A 3 + 1) (gz (sh A 118)))) := cut_ext (by omega) (by rw [sh_gz g (by omega) (by omega)]; exact hs) (fun j a b => by rw [sh_gz g (by omega) a, sh_gz A (by omega) a]; exact hk _ (by omega) (by omega))
  have e2 : cut (gz A 4) (gz (st2 g 78)) = cut (gz A 4) (gz (st2 A 78)) := cut_eq (fun j a b => by rw [st2_gz g (by omega) a, st2_gz A (by omega) a]; exact hk _ (by omega) (by omega))
  have e3 : cut (gz A 4) (gz (st2 g 79)) = cut (gz A 4) (gz (st2 A 79)) := cut_eq (fun j a b => by rw [st2_gz g (by omega) a, st2_gz A (by omega) a]; exact hk _ (by omega) (by omega))
  show (gz g 3, gz g 4, cut (gz g 3 + 1) (gz (sh g 118)), cut (gz g 4) (gz (st2 g 78)), cut (gz g 4) (gz (st2 g 79))) = (if gz A 3 < 400 then (gz A 3 + 1, gz A 4, xUp (cut (gz A 3 + 1) (gz (sh A 118))) (gz A 3 + 1) (nxV e (gz A 3) (cut (gz A 3 + 1) (gz (sh A 118)))), cut (gz A 4) (gz (st2 A 78)), cut (gz A 4) (gz (st2 A 79))) else rL A)
  rw [if_pos hw.2, h3, h4, e1, e2, e3]
/-- what is worn now changes -/
theorem rL_now {A g : Nat → Int32} {v : Int} {W : Int → Int} (h3 : gz g 3 = gz A 3) (h4 : gz g 4 = gz A 4) (hw : 0 ≤ gz A 3 ∧ gz A 3 ≤ 400) (ho : 0 ≤ gz A 4 ∧ gz A 4 ≤ 20) (hv : gz g (118 + gz A 3) = v) (hk : ∀ j : Int, 78 ≤ j → ¬ j = 118 + gz A 3 → gz g j = gz A j) : rL g = (gz A 3, gz A 4, xUp (cut (gz A 3 + 1) (gz (sh A 118))) (gz A 3) v, cut (gz A 4) (gz (st2 A 78)), cut (gz A 4) (gz (st2 A 79))) := by
  have e1 : cut (gz A 3 + 1) (gz (sh g 118)) = xUp (cut (gz A 3 + 1) (gz (sh A 118))) (gz A 3) v := cut_set ⟨by omega, by omega⟩ (by rw [sh_gz g (by omega) (by omega)]; exact hv) (fun j a b c => by rw [sh_gz g (by omega) a, sh_gz A (by omega) a]; exact hk _ (by omega) (by omega))
  have e2 : cut (gz A 4) (gz (st2 g 78)) = cut (gz A 4) (gz (st2 A 78)) := cut_eq (fun j a b => by rw [st2_gz g (by omega) a, st2_gz A (by omega) a]; exact hk _ (by omega) (by omega))
  have e3 : cut (gz A 4) (gz (st2 g 79)) = cut (gz A 4) (gz (st2 A 79)) := cut_eq (fun j a b => by rw [st2_gz g (by omega) a, st2_gz A (by omega) a]; exact hk _ (by omega) (by omega))
  show (gz g 3, gz g 4, cut (gz g 3 + 1) (gz (sh g 118)), cut (gz g 4) (gz (st2 g 78)), cut (gz g 4) (gz (st2 g 79))) = _
  rw [h3, h4, e1, e2, e3]
theorem rL_wn (A : Nat → Int32) (hw : 0 ≤ gz A 3 ∧ gz A 3 ≤ 400) : (rL A).2.2.1 (rL A).1 = gz A (118 + gz A 3) := (cut_in (F := gz (sh A 118)) (show 0 ≤ gz A 3 ∧ gz A 3 < gz A 3 + 1 by omega)).trans (sh_gz A (by omega) hw.1)
theorem rL_ds {A g : Nat → Int32} {i z r b : Int} (h : g = upd A (iZ i).toNatClampNeg (iZ z)) (hi : i = 118 + gz A 3) (hw : 0 ≤ gz A 3 ∧ gz A 3 ≤ 400) (ho : 0 ≤ gz A 4 ∧ gz A 4 ≤ 20) (hz : z = dsV (gz A (118 + gz A 3)) r b) : rL g = dsF r b (rL A) := by
  have u := fun (j : Int) hj => gz_up (j := j) h ⟨by omega, by omega⟩ (by rw [hz]; exact dsV_rg _ _ _) hj
  rw [rL_now (g := g) (v := z) (W := fun _ => 0) (by rw [u 3 (by omega), if_neg (by omega)]) (by rw [u 4 (by omega), if_neg (by omega)]) hw ho (by rw [u _ (by omega), if_pos hi.symm]) (fun j a b => by rw [u j (by omega), if_neg (by omega)])]
  show _ = (gz A 3, gz A 4, xUp (cut (gz A 3 + 1) (gz (sh A 118))) (gz A 3) (dsV ((rL A).2.2.1 (rL A).1) r b), cut (gz A 4) (gz (st2 A 78)), cut (gz A 4) (gz (st2 A 79)))
  rw [rL_wn A hw, hz]
theorem rL_ch {e : EV_} {A g : Nat → Int32} {d c : Int} (h3 : gz g 3 = gz A 3) (h4 : gz g 4 = gz A 4) (hw : 0 ≤ gz A 3 ∧ gz A 3 ≤ 400) (ho : 0 ≤ gz A 4 ∧ gz A 4 ≤ 20) (hv : gz g (118 + gz A 3) = chX d c (gz A (118 + gz A 3)) e.1.toNat) (hk : ∀ j : Int, 78 ≤ j → ¬ j = 118 + gz A 3 → gz g j = gz A j) : rL g = chF e d c (rL A) := by
  rw [rL_now (g := g) (W := fun _ => 0) h3 h4 hw ho hv hk]
  show _ = (gz A 3, gz A 4, xUp (cut (gz A 3 + 1) (gz (sh A 118))) (gz A 3) (chX d c ((rL A).2.2.1 (rL A).1) e.1.toNat), cut (gz A 4) (gz (st2 A 78)), cut (gz A 4) (gz (st2 A 79)))
  rw [rL_wn A hw]
theorem rL_od {A f g h : Nat → Int32} {i1 i2 x w v : Int} (h1 : f = upd A (iZ i1).toNatClampNeg (iZ x)) (h2 : g = upd f (iZ i2).toNatClampNeg (iZ w)) (h3 : h = upd g (iZ 4).toNatClampNeg (iZ v)) (e1 : i1 = 78 + 2 * gz A 4) (e2 : i2 = 79 + 2 * gz A 4) (ew : w = gz A 3) (ev : v = gz A 4 + 1) (hw : 0 ≤ gz A 3 ∧ gz A 3 ≤ 400) (ho : 0 ≤ gz A 4 ∧ gz A 4 < 20) (hx : -2147483648 ≤ x ∧ x < 2147483648) : rL h = odF x (rL A) := by
  have u1 := fun (j : Int) hj => gz_up (j := j) h1 ⟨by omega, by omega⟩ hx hj
  have u2 := fun (j : Int) hj => gz_up (j := j) h2 ⟨by omega, by omega⟩ ⟨by omega, by omega⟩ hj
  have u3 := fun (j : Int) hj => gz_up (j := j) h3 ⟨by omega, by omega⟩ ⟨by omega, by omega⟩ hj
  have k3 : gz h 3 = gz A 3 := by rw [u3 3 (by omega), if_neg (by omega), u2 3 (by omega), if_neg (by omega), u1 3 (by omega), if_neg (by omega)]
  have k4 : gz h 4 = gz A 4 + 1 := by rw [u3 4 (by omega), if_pos rfl]; exact ev
  have far : ∀ j : Int, 78 ≤ j → ¬ j = i1 → ¬ j = i2 → gz h j = gz A j := fun j a b c => by rw [u3 j (by omega), if_neg (by omega), u2 j (by omega), if_neg (by omega), u1 j (by omega), if_neg (by omega)]
  have n1 : gz h i1 = x := by rw [u3 i1 (by omega), if_neg (by omega), u2 i1 (by omega), if_neg (by omega), u1 i1 (by omega), if_pos rfl]
  have n2 : gz h i2 = gz A 3 := by rw [u3 i2 (by omega), if_neg (by omega), u2 i2 (by omega), if_pos rfl]; exact ew
  have c1 : cut (gz A 3 + 1) (gz (sh h 118)) = cut (gz A 3 + 1) (gz (sh A 118)) := cut_eq (fun j a b => by rw [sh_gz h (by omega) a, sh_gz A (by omega) a]; exact far _ (by omega) (by omega) (by omega))
  have c2 : cut (gz A 4 + 1) (gz (st2 h 78)) = xUp (cut (gz A 4) (gz (st2 A 78))) (gz A 4) x := cut_ext ho.1 (by rw [st2_gz h (by omega) ho.1, ← e1]; exact n1) (fun j a b => by rw [st2_gz h (by omega) a, st2_gz A (by omega) a]; exact far _ (by omega) (by omega) (by omega))
  have c3 : cut (gz A 4 + 1) (gz (st2 h 79)) = xUp (cut (gz A 4) (gz (st2 A 79))) (gz A 4) (gz A 3) := cut_ext ho.1 (by rw [st2_gz h (by omega) ho.1, ← e2]; exact n2) (fun j a b => by rw [st2_gz h (by omega) a, st2_gz A (by omega) a]; exact far _ (by omega) (by omega) (by omega))
  show (gz h 3, gz h 4, cut (gz h 3 + 1) (gz (sh h 118)), cut (gz h 4) (gz (st2 h 78)), cut (gz h 4) (gz (st2 h 79))) = (gz A 3, gz A 4 + 1, cut (gz A 3 + 1) (gz (sh A 118)), xUp (cut (gz A 4) (gz (st2 A 78))) (gz A 4) x, xUp (cut (gz A 4) (gz (st2 A 79))) (gz A 4) (gz A 3))
  rw [k3, k4, c1, c2, c3]
/-- set | bit << r -/
theorem sB_v {P : Int → Prop} {s r v z1 z2 : Int} (h : iZ s = bS P r.toNat) (hr : 0 ≤ r) (hv : (v = 1 ∧ P r) ∨ (v = 0 ∧ ¬ P r)) (e1 : iZ z1 = iZ v <<< (iZ r &&& 31)) (e2 : iZ z2 = iZ s ||| iZ z1) : iZ z2 = bS P (r + 1).toNat := by
  rcases hv with ⟨h1, h2⟩ | ⟨h1, h2⟩
  · subst h1
    exact sB_y h hr h2 e1 e2
  · subst h1
    have e3 : (iZ 0 <<< (iZ r &&& 31) : Int32) = iZ 0 := by
      apply Int32.toBitVec_inj.1
      rw [Int32.toBitVec_shiftLeft]
      show (0#32 : BitVec 32) <<< _ = 0#32
      exact BitVec.zero_shiftLeft _
    rw [e1, e3] at e2
    exact sB_r h hr h2 e2
/-- what a row of the reference holds -/
theorem row_r {A : Nat → Int32} {n k : Int} {P : PR_} (h : yRM A 0 P) (ok : okR n P) (hk : 0 ≤ k ∧ k < P.1) : (P.2.1 k = 15 ∧ gz A (520 + (6 * k)) = 15 ∧ gz A ((520 + (6 * k)) + 1) = P.2.2.1 k) ∨ (P.2.1 k = 16 ∧ gz A (520 + (6 * k)) = 16 ∧ gz A ((520 + (6 * k)) + 1) = P.2.2.1 k ∧ gz A ((520 + (6 * k)) + 2) = P.2.2.2.1 k) ∨ (P.2.1 k = 17 ∧ gz A (520 + (6 * k)) = 17 ∧ gz A ((520 + (6 * k)) + 1) = P.2.2.1 k) ∨ (P.2.1 k = 18 ∧ gz A (520 + (6 * k)) = 18 ∧ gz A ((520 + (6 * k)) + 1) = P.2.2.1 k) ∨ (P.2.1 k = 19 ∧ gz A ((520 + (6 * k)) + 4) = P.2.2.2.2.2 k ∧ ((P.2.2.1 k = 15 ∧ gz A (520 + (6 * k)) = 1915 ∧ gz A ((520 + (6 * k)) + 5) = P.2.2.2.1 k ∧ gz A ((520 + (6 * k)) + 1) = P.2.2.2.2.1 k) ∨ (P.2.2.1 k = 7 ∧ gz A (520 + (6 * k)) = 1909 ∧ gz A ((520 + (6 * k)) + 1) = P.2.2.2.1 k) ∨ (P.2.2.1 k = 20 ∧ gz A (520 + (6 * k)) = 1923 ∧ gz A ((520 + (6 * k)) + 1) = P.2.2.2.1 k ∧ gz A ((520 + (6 * k)) + 2) = P.2.2.2.2.1 k))) ∨ (P.2.1 k = 22 ∧ gz A (520 + (6 * k)) = 20 ∧ gz A ((520 + (6 * k)) + 1) = P.2.2.1 k) ∨ (P.2.1 k = 24 ∧ gz A (520 + (6 * k)) = 22) ∨ (P.2.1 k = 23 ∧ gz A (520 + (6 * k)) = 21 ∧ gz A ((520 + (6 * k)) + 4) = P.2.2.2.2.2 k) := by
  obtain ⟨h5, hr⟩ := h
  obtain ⟨r1, r2, r3⟩ := hr k hk.1 hk.2
  obtain ⟨w1, w2, w3, w4⟩ := ok.2.2 k hk.1 hk.2
  rw [show 0 + 520 + 6 * k = 520 + (6 * k) by omega] at r1 r2 r3
  obtain ⟨s1, s2, s3⟩ := r3
  have p19 : P.2.1 k = 19 ∨ P.2.1 k = 23 → gz A ((520 + (6 * k)) + 4) = P.2.2.2.2.2 k := fun e => by
    rcases r2 with ⟨c, -⟩ | ⟨-, c⟩
    · rcases e with e | e
      · rcases w4 e with g | ⟨i, i1, -⟩
        · omega
        · omega
      · have := w3 e
        omega
    · exact c
  have ne : ∀ w : Int, ¬ w = 19 → P.2.1 k = w → gz A (520 + (6 * k)) = xPm w := fun w a b => by rw [r1, b, yCd_n a]
  have k15 : xPm 15 = 15 := by decide +kernel
  have k16 : xPm 16 = 16 := by decide +kernel
  have k17 : xPm 17 = 17 := by decide +kernel
  have k18 : xPm 18 = 18 := by decide +kernel
  have k22 : xPm 22 = 20 := by decide +kernel
  have k23 : xPm 23 = 21 := by decide +kernel
  have k24 : xPm 24 = 22 := by decide +kernel
  have k7 : xPm 7 = 9 := by decide +kernel
  have k20 : xPm 20 = 23 := by decide +kernel
  rcases w1 with w1 | w1
  · have w1 : P.2.1 k = 15 ∨ P.2.1 k = 16 ∨ P.2.1 k = 17 ∨ P.2.1 k = 18 ∨ P.2.1 k = 19 ∨ P.2.1 k = 22 ∨ P.2.1 k = 24 := w1
    rcases w1 with c | c | c | c | c | c | c
    · exact Or.inl ⟨c, (ne 15 (by omega) c).trans k15, s1 (Or.inl c)⟩
    · exact Or.inr (Or.inl ⟨c, (ne 16 (by omega) c).trans k16, s1 (Or.inr (Or.inr (Or.inr (Or.inr c)))), s2 c⟩)
    · exact Or.inr (Or.inr (Or.inl ⟨c, (ne 17 (by omega) c).trans k17, s1 (Or.inr (Or.inr (Or.inr (Or.inl c))))⟩))
    · exact Or.inr (Or.inr (Or.inr (Or.inl ⟨c, (ne 18 (by omega) c).trans k18, s1 (Or.inr (Or.inr (Or.inl c)))⟩)))
    · refine Or.inr (Or.inr (Or.inr (Or.inr (Or.inl ⟨c, p19 (Or.inl c), ?_⟩))))
      have yt := w2.2.2.2.2 c
      obtain ⟨t1, t2, t3⟩ := s3 c
      have e1 : ∀ a : Int, P.2.2.1 k = a → gz A (520 + (6 * k)) = 1900 + xPm a := fun a e => by rw [r1, c, e, yCd_t]
      rcases yt with ⟨y, -⟩ | ⟨y, -⟩ | ⟨y, -⟩
      · exact Or.inl ⟨y, by have := e1 15 y; omega, (t1 y).1, (t1 y).2⟩
      · exact Or.inr (Or.inl ⟨y, by have := e1 7 y; omega, t2 y⟩)
      · exact Or.inr (Or.inr ⟨y, by have := e1 20 y; omega, (t3 y).1, (t3 y).2⟩)
    · exact Or.inr (Or.inr (Or.inr (Or.inr (Or.inr (Or.inl ⟨c, (ne 22 (by omega) c).trans k22, s1 (Or.inr (Or.inl c))⟩)))))
    · exact Or.inr (Or.inr (Or.inr (Or.inr (Or.inr (Or.inr (Or.inl ⟨c, (ne 24 (by omega) c).trans k24⟩))))))
  · exact Or.inr (Or.inr (Or.inr (Or.inr (Or.inr (Or.inr (Or.inr ⟨w1, (ne 23 (by omega) w1).trans k23, p19 (Or.inr w1)⟩))))))
/-- a road -/
def Rc {α : Type} (f : α → α) (a b : α) : Prop := ∃ t : Nat, b = itF f t a
theorem Rc.rf {α : Type} (f : α → α) (a : α) : Rc f a a := ⟨0, rfl⟩
theorem Rc.st {α : Type} {f : α → α} {a b : α} (h : Rc f a b) : Rc f a (f b) := by
  obtain ⟨t, rfl⟩ := h
  exact ⟨t + 1, rfl⟩
theorem Rc.tr {α : Type} {f : α → α} {a b c : α} (h : Rc f a b) (g : Rc f b c) : Rc f a c := by
  obtain ⟨t, rfl⟩ := h
  obtain ⟨u, rfl⟩ := g
  exact ⟨u + t, (itF_add t u a).symm⟩
theorem Rc_eq {α : Type} {f : α → α} {a b c : α} (h : Rc f a b) (e : b = c) : Rc f a c := e ▸ h
/-- what is left of the reference's loops -/
def rQ (f : Nat → Int32) : Int → Int := cut 60 (gz f)
theorem rQ_in {f : Nat → Int32} {o : Int} (h : 0 ≤ o ∧ o < 60) : rQ f o = gz f o := cut_in h
theorem rQ_up {f g : Nat → Int32} {b v : Int} (hb : 0 ≤ b ∧ b < 60) (h : g = upd f (iZ b).toNatClampNeg (iZ v)) (hv : -2147483648 ≤ v ∧ v < 2147483648) : rQ g = xUp (rQ f) b v := cut_set (F := gz f) hb (by rw [gz_up h ⟨by omega, by omega⟩ hv hb.1, if_pos rfl]) (fun e p q c => by rw [gz_up h ⟨by omega, by omega⟩ hv p, if_neg c])
def okZ (f : Nat → Int32) : Prop := ∀ o : Int, 0 ≤ o → o < 60 → 0 ≤ gz f o ∧ gz f o ≤ 98
theorem okZ.up {f g : Nat → Int32} {b v : Int} (k : okZ f) (hb : 0 ≤ b ∧ b < 60) (h : g = upd f (iZ b).toNatClampNeg (iZ v)) (hv : 0 ≤ v ∧ v ≤ 98) : okZ g := fun o p q => by
  rw [gz_up h ⟨by omega, by omega⟩ ⟨by omega, by omega⟩ p]
  by_cases c : o = b
  · rw [if_pos c]; exact hv
  · rw [if_neg c]; exact k o p q
end

section
set_option maxHeartbeats 4000000 in
set_option maxRecDepth 100000 in
theorem r_fseen (l : Launch) (D : va_G) (k : Nat → ClassId) (fs : List Value) (hm : Nat) (Ma : Nat) (Af : Nat → Int32) (x : Int) (y : Int) (w : Int) (f0 : fs[0]? = some (.ref Ma)) (hM : M0 Af) (h9x : 0 ≤ x ∧ x < gz Af 0) (h9y : 0 ≤ y ∧ y < gz Af 0) (h9w : 0 ≤ w ∧ w ≤ 400) : RP l yX12_fashionSeen cX12_fashionSeen 5 (some .int) 6 D k [.ref hm, .int (iZ x), .int (iZ y), .int (iZ w)] [(hm, .inr (12, fs)), (Ma, .inl (k 1, 5340, .inl Af))] (fun z => ((z : Int) = -1 ∧ snF (sh Af 10) (sh Af 46) (gz Af 1) x y w = -1) ∨ (¬ snF (sh Af 10) (sh Af 46) (gz Af 1) x y w = -1 ∧ iZ z = wb (iZ (gz Af (118 + snF (sh Af 10) (sh Af 46) (gz Af 1) x y w))) (iZ y) ∧ (z = 0 ∨ z = 1))) := by
  refine MRP (by decide) (Nat.le_of_ble_eq_true rfl) (fun p e s m below meth c ls hx hb hml hr hlocks hts hown hKK hP hl => ?_)
  have hK := hKK.1
  have hl : lv_has ls 5 [(0, .ref hm), (1, .int (iZ x)), (2, .int (iZ y)), (3, .int (iZ w))] := hl
  obtain ⟨m0, m1, m3, m4, m5, mF, mO, mS⟩ := id hM
  refine lv_aload_n hx hb dX12_fashionSeen_0 rfl (lv_at hl 0 rfl) ?_
  refine lv_iload_n hx hb dX12_fashionSeen_1 rfl (lv_at hl 1 rfl) ?_
  refine lv_iload_n hx hb dX12_fashionSeen_2 rfl (lv_at hl 2 rfl) ?_
  refine lv_iload_n hx hb dX12_fashionSeen_3 rfl (lv_at hl 3 rfl) ?_
  refine CPV (As := [.int (iZ x), .int (iZ y), .int (iZ w)]) (rest := []) hx hb hml hown hts hKK hP (m_seen l D k fs hm Ma Af x y w f0 hM ⟨by omega, by omega⟩ ⟨by omega, by omega⟩ ⟨by omega, by omega⟩) ci_X12_seenBy qm_X12_287 ⟨Nat.le_of_ble_eq_true rfl, Nat.le_of_ble_eq_true rfl⟩ ⟨Nat.le_of_ble_eq_true rfl, Nat.le_of_ble_eq_true rfl⟩ 0 rfl rfl rfl hl.1 rfl (Nat.le_of_ble_eq_true rfl) dX12_fashionSeen_4 (fun z_1 hz_1 => ?_)
  obtain ⟨ez_1, az_1⟩ := hz_1
  refine lv_istore (lv' := [(4, .int (iZ z_1)), (0, .ref hm), (1, .int (iZ x)), (2, .int (iZ y)), (3, .int (iZ w))]) hx hb dX12_fashionSeen_7 hl (bl rfl) rfl (fun ls hl => ?_)
  refine lv_iload hx hb dX12_fashionSeen_9 (lv_at hl 0 rfl) ?_
  refine lv_iconst (v := iZ (-1)) hx hb dX12_fashionSeen_11 rfl ?_
  refine lv_icmp_ne (tgt := 19) hx hb dX12_fashionSeen_12 rfl (fun c_2 => ?_) (fun c_2 => ?_)
  ·
    have c_2 := mt (zeq (x := iZ z_1) (y := iZ (-1)) rfl rfl ⟨by omega, by omega⟩ wn_m1).mpr c_2
    refine lv_aload_n hx hb dX12_fashionSeen_19 rfl (lv_at hl 1 rfl) ?_
    refine lv_iload_n hx hb dX12_fashionSeen_20 rfl (lv_at hl 3 rfl) ?_
    refine lv_iload hx hb dX12_fashionSeen_21 (lv_at hl 0 rfl) ?_
    refine CPV (As := [.int (iZ y), .int (iZ z_1)]) (rest := []) hx hb hml hown hts hKK hP (m_wore l D k fs hm Ma Af y z_1 f0 hM ⟨by omega, by omega⟩) ci_X12_woreIn qm_X12_363 ⟨Nat.le_of_ble_eq_true rfl, Nat.le_of_ble_eq_true rfl⟩ ⟨Nat.le_of_ble_eq_true rfl, Nat.le_of_ble_eq_true rfl⟩ 0 rfl rfl rfl hl.1 rfl (Nat.le_of_ble_eq_true rfl) dX12_fashionSeen_23 (fun z_3 hz_3 => ?_)
    have hbz_3 := hz_3.2
    exact EPi hx hb hr hlocks (Or.inr ⟨by omega, by rw [← ez_1]; exact hz_3.1, hz_3.2⟩) dX12_fashionSeen_26
  ·
    have c_2 := (zeq (x := iZ z_1) (y := iZ (-1)) rfl rfl ⟨by omega, by omega⟩ wn_m1).mp c_2
    refine lv_iconst (v := iZ (-1)) hx hb dX12_fashionSeen_15 rfl ?_
    refine lv_goto (tgt := 26) hx hb dX12_fashionSeen_16 rfl ?_
    exact EPi hx hb hr hlocks (Or.inl ⟨rfl, by omega⟩) dX12_fashionSeen_26
theorem rmr {A : Nat → Int32} {r i : Int} (h : M0 A) (hr : 0 ≤ r ∧ r < gz A 0) (hi : 0 ≤ i ∧ i < gz A 0) (hw : gz A 3 < 400) : ((i = r ∨ snF (sh A 10) (sh A 46) (gz A 1) r i (gz A 3 + 1) = -1) ∧ mrF (eR A) (gz A 3) (cut (gz A 3 + 1) (gz (sh A 118))) r (i + 1).toNat = mrF (eR A) (gz A 3) (cut (gz A 3 + 1) (gz (sh A 118))) r i.toNat) ∨ ((¬ i = r ∧ ¬ snF (sh A 10) (sh A 46) (gz A 1) r i (gz A 3 + 1) = -1) ∧ wB (gz A (118 + snF (sh A 10) (sh A 46) (gz A 1) r i (gz A 3 + 1))) i = 1 ∧ mrF (eR A) (gz A 3) (cut (gz A 3 + 1) (gz (sh A 118))) r (i + 1).toNat = mrF (eR A) (gz A 3) (cut (gz A 3 + 1) (gz (sh A 118))) r i.toNat + 1) ∨ ((¬ i = r ∧ ¬ snF (sh A 10) (sh A 46) (gz A 1) r i (gz A 3 + 1) = -1) ∧ ¬ wB (gz A (118 + snF (sh A 10) (sh A 46) (gz A 1) r i (gz A 3 + 1))) i = 1 ∧ mrF (eR A) (gz A 3) (cut (gz A 3 + 1) (gz (sh A 118))) r (i + 1).toNat = mrF (eR A) (gz A 3) (cut (gz A 3 + 1) (gz (sh A 118))) r i.toNat - 1) := by
  have c := cmr (f := sh A 10) (g := sh A 46) (n := gz A 0) (ni := gz A 1) (lw := gz A 2) (wf := sh A 118) (wk := gz A 3) h.2.2.2.2.2.1 hr hi ⟨h.2.2.1.1, hw⟩
  rcases c with c | ⟨c1, c2, c3⟩ | ⟨c1, c2, c3⟩
  · exact Or.inl c
  · have s := snF_sp (f := sh A 10) (g := sh A 46) (ni := gz A 1) (r := r) (o := i) (w := gz A 3 + 1) (by have := h.2.2.1; omega)
    rw [sh_gz A (by omega) (by have := s.1.1; omega)] at c2
    exact Or.inr (Or.inl ⟨c1, c2, c3⟩)
  · have s := snF_sp (f := sh A 10) (g := sh A 46) (ni := gz A 1) (r := r) (o := i) (w := gz A 3 + 1) (by have := h.2.2.1; omega)
    rw [sh_gz A (by omega) (by have := s.1.1; omega)] at c2
    exact Or.inr (Or.inr ⟨c1, c2, c3⟩)
theorem fs_bit {A : Nat → Int32} {z s y : Int} (h : (z = -1 ∧ s = -1) ∨ (¬ s = -1 ∧ iZ z = wb (iZ (gz A (118 + s))) (iZ y) ∧ (z = 0 ∨ z = 1))) : (z = -1 ∧ s = -1) ∨ (¬ s = -1 ∧ z = wB (gz A (118 + s)) y ∧ (z = 0 ∨ z = 1)) := by
  rcases h with h | ⟨h1, h2, h3⟩
  · exact Or.inl h
  · exact Or.inr ⟨h1, wB_eq h2 h3, h3⟩
theorem nx_r {A : Nat → Int32} {r : Int} (hw : 0 ≤ gz A 3) : ((0 < mrF (eR A) (gz A 3) (cut (gz A 3 + 1) (gz (sh A 118))) r (gz A 0).toNat ∨ (mrF (eR A) (gz A 3) (cut (gz A 3 + 1) (gz (sh A 118))) r (gz A 0).toNat = 0 ∧ wB (gz A (118 + gz A 3)) r = 1)) ∧ nxP (eR A) (gz A 3) (cut (gz A 3 + 1) (gz (sh A 118))) r) ∨ (¬ (0 < mrF (eR A) (gz A 3) (cut (gz A 3 + 1) (gz (sh A 118))) r (gz A 0).toNat ∨ (mrF (eR A) (gz A 3) (cut (gz A 3 + 1) (gz (sh A 118))) r (gz A 0).toNat = 0 ∧ wB (gz A (118 + gz A 3)) r = 1)) ∧ ¬ nxP (eR A) (gz A 3) (cut (gz A 3 + 1) (gz (sh A 118))) r) := by
  have e := sh_gz A (c := 118) (by omega) hw
  rw [← e]
  by_cases c : 0 < mrF (eR A) (gz A 3) (cut (gz A 3 + 1) (gz (sh A 118))) r (gz A 0).toNat ∨ (mrF (eR A) (gz A 3) (cut (gz A 3 + 1) (gz (sh A 118))) r (gz A 0).toNat = 0 ∧ wB (gz (sh A 118) (gz A 3)) r = 1)
  · exact Or.inl ⟨c, nx_y hw c⟩
  · exact Or.inr ⟨c, nx_n hw c⟩
set_option maxHeartbeats 4000000 in
set_option maxRecDepth 100000 in
theorem r_goes (l : Launch) (D : va_G) (k : Nat → ClassId) (fs : List Value) (hm : Nat) (Ma : Nat) (Af : Nat → Int32) (f0 : fs[0]? = some (.ref Ma)) (hM : M0 Af) : WD (σ := ((Int) × (Int64) × ((Nat → Int32)) × (Unit))) l yX12_goes cX12_goes 7 (some .boolean) 7 0 0 D k [.ref hm] [(hm, .inr (12, fs)), (Ma, .inl (k 1, 5340, .inl Af))] (fun u => some (.int (iZ u.1))) (fun u => (M0 u.2.2.1) ∧ (FR u.2.2.1 Af) ∧ (((u.1 : Int) = 0 ∧ gz Af 3 = 400 ∧ u.2.2.1 = Af) ∨ ((u.1 : Int) = 1 ∧ gz Af 3 < 400 ∧ rL u.2.2.1 = gsF (eR Af) (rL Af)))) (fun u => [(hm, .inr (12, fs)), (Ma, .inl (k 1, 5340, .inl u.2.2.1))]) := by
  refine MW (by decide) (Nat.le_of_ble_eq_true rfl) (fun p e s m below meth c ls A hx hb hml hr hlocks hin hts hown hKK hP hD hS hA hl => ?_)
  have hK := hKK.1
  have hl : lv_has ls 7 [(0, .ref hm)] := hl
  obtain ⟨m0, m1, m3, m4, m5, mF, mO, mS⟩ := id hM
  refine lv_aload_n hx hb dX12_goes_0 rfl (lv_at hl 0 rfl) ?_
  refine va_get (D := D) (ci := 12) (v := .ref Ma) (C := RX12) (T := TX12) (N := 36) hx hb hts iX12 hown hK hP 0 rfl rfl 0 (bl rfl) (hts _ qf_X12_7) (fun _ h => h) f0 dX12_goes_1 ?_
  refine lv_iconst (v := iZ 3) hx hb dX12_goes_4 rfl ?_
  refine va_iald hx hb hK hP 1 1 rfl rfl (zin (e := 3) (n := 5340) ⟨by omega, by omega⟩ (bl rfl)) dX12_goes_5 ?_
  refine lv_topi (fun x_1 ex_1 => ?_)
  obtain rfl : x_1 = iZ (gz Af 3) := ex_1.trans (gz_eq ⟨by omega, by omega⟩)
  have h_2 := gz_rg Af 3
  refine lv_sipush (v := iZ 400) hx hb dX12_goes_6 sip_400 ?_
  refine lv_icmp_ne (tgt := 14) hx hb dX12_goes_9 rfl (fun c_3 => ?_) (fun c_3 => ?_)
  ·
    have c_3 := mt (zeq (x := iZ (gz Af 3)) (y := iZ 400) rfl rfl (gz_rg Af 3) wn_400).mpr c_3
    refine lv_aload_n hx hb dX12_goes_14 rfl (lv_at hl 0 rfl) ?_
    refine va_get (D := D) (ci := 12) (v := .ref Ma) (C := RX12) (T := TX12) (N := 36) hx hb hts iX12 hown hK hP 0 rfl rfl 0 (bl rfl) (hts _ qf_X12_7) (fun _ h => h) f0 dX12_goes_15 ?_
    refine lv_iconst (v := iZ 3) hx hb dX12_goes_18 rfl ?_
    refine va_iald hx hb hK hP 1 1 rfl rfl (zin (e := 3) (n := 5340) ⟨by omega, by omega⟩ (bl rfl)) dX12_goes_19 ?_
    refine lv_topi (fun x_4 ex_4 => ?_)
    obtain rfl : x_4 = iZ (gz Af 3) := ex_4.trans (gz_eq ⟨by omega, by omega⟩)
    have h_5 := gz_rg Af 3
    refine lv_iconst (v := iZ 1) hx hb dX12_goes_20 rfl ?_
    refine lv_iadd hx hb dX12_goes_21 ?_
    refine lv_topi (fun x_6 ex_6 => ?_)
    obtain rfl : x_6 = iZ ((gz Af 3) + 1) := ex_6.trans (iZ_add (gz Af 3) 1)
    refine lv_istore_n (lv' := [(1, .int (iZ ((gz Af 3) + 1))), (0, .ref hm)]) hx hb dX12_goes_22 rfl hl (bl rfl) rfl (fun ls hl => ?_)
    refine lv_iconst (v := iZ 0) hx hb dX12_goes_23 rfl ?_
    refine lv_istore_n (lv' := [(2, .int (iZ 0)), (1, .int (iZ ((gz Af 3) + 1))), (0, .ref hm)]) hx hb dX12_goes_24 rfl hl (bl rfl) rfl (fun ls hl => ?_)
    refine lv_iconst (v := iZ 0) hx hb dX12_goes_25 rfl ?_
    refine lv_istore_n (lv' := [(3, .int (iZ 0)), (2, .int (iZ 0)), (1, .int (iZ ((gz Af 3) + 1))), (0, .ref hm)]) hx hb dX12_goes_26 rfl hl (bl rfl) rfl (fun ls hl => ?_)
    have HL27 : ∀ (fu : Nat) (v2_27 : Int) (v3_27 : Int) (H : Heap) (locs : List Loc) (ls : Array Slot), ((gz Af 0 - 1) + 2 - v3_27) < (fu : Int) → ((0 ≤ v3_27 ∧ v3_27 ≤ (gz Af 0 - 1) + 1)) → (-2147483648 ≤ v2_27 ∧ v2_27 < 2147483648) → (iZ v2_27 = bS (nxP (eR Af) (gz Af 3) (cut (gz Af 3 + 1) (gz (sh Af 118)))) (Int.toNat (v3_27))) → va_P D vwCl [(hm, .inr (12, fs)), (Ma, .inl (k 1, 5340, .inl Af))] H → va_D A [(hm, .inr (12, fs)), (Ma, .inl (k 1, 5340, .inl Af))] → va_S A s.heap H locs → lv_has ls 7 [(3, .int (iZ v3_27)), (2, .int (iZ v2_27)), (1, .int (iZ ((gz Af 3) + 1))), (0, .ref hm)] → W p l e (rj 7 0 0) s m [.ref hm].toArray below meth c H locs 0 0 (MQ below (QW (σ := ((Int) × (Int64) × ((Nat → Int32)) × (Unit))) (fun u => some (.int (iZ u.1))) (fun u => (M0 u.2.2.1) ∧ (FR u.2.2.1 Af) ∧ (((u.1 : Int) = 0 ∧ gz Af 3 = 400 ∧ u.2.2.1 = Af) ∨ ((u.1 : Int) = 1 ∧ gz Af 3 < 400 ∧ rL u.2.2.1 = gsF (eR Af) (rL Af)))) (fun u => [(hm, .inr (12, fs)), (Ma, .inl (k 1, 5340, .inl u.2.2.1))]) D A) [.ref hm].toArray s 0 0 A) (F0 m 27 ls []) := by
      intro fu
      induction fu with
      | zero => intro v2_27 v3_27 H locs ls hμ27 hi27 hf0_27 hst hP hD hS hl; exact absurd hμ27 (by omega)
      | succ fu ih27 =>
        intro v2_27 v3_27 H locs ls hμ27 hi27 hf0_27 hst hP hD hS hl
        refine lv_iload_n hx hb dX12_goes_27 rfl (lv_at hl 0 rfl) ?_
        refine lv_aload_n hx hb dX12_goes_28 rfl (lv_at hl 3 rfl) ?_
        refine va_get (D := D) (ci := 12) (v := .ref Ma) (C := RX12) (T := TX12) (N := 36) hx hb hts iX12 hown hK hP 0 rfl rfl 0 (bl rfl) (hts _ qf_X12_7) (fun _ h => h) f0 dX12_goes_29 ?_
        refine lv_iconst (v := iZ 0) hx hb dX12_goes_32 rfl ?_
        refine va_iald hx hb hK hP 1 1 rfl rfl (zin (e := 0) (n := 5340) ⟨by omega, by omega⟩ (bl rfl)) dX12_goes_33 ?_
        refine lv_topi (fun x_7 ex_7 => ?_)
        obtain rfl : x_7 = iZ (gz Af 0) := ex_7.trans (gz_eq ⟨by omega, by omega⟩)
        have h_8 := gz_rg Af 0
        refine lv_icmp_ge (tgt := 145) hx hb dX12_goes_34 rfl (fun c_9 => ?_) (fun c_9 => ?_)
        ·
          have c_9 := (zle (x := iZ (gz Af 0)) (y := iZ v3_27) rfl rfl (gz_rg Af 0) ⟨by omega, by omega⟩).mp c_9
          refine lv_aload_n hx hb dX12_goes_145 rfl (lv_at hl 3 rfl) ?_
          refine va_get (D := D) (ci := 12) (v := .ref Ma) (C := RX12) (T := TX12) (N := 36) hx hb hts iX12 hown hK hP 0 rfl rfl 0 (bl rfl) (hts _ qf_X12_7) (fun _ h => h) f0 dX12_goes_146 ?_
          refine lv_bipush (v := iZ 118) hx hb dX12_goes_149 bip_118 ?_
          refine lv_iload_n hx hb dX12_goes_151 rfl (lv_at hl 2 rfl) ?_
          refine lv_iadd hx hb dX12_goes_152 ?_
          refine lv_topi (fun x_10 ex_10 => ?_)
          obtain rfl : x_10 = iZ (118 + ((gz Af 3) + 1)) := ex_10.trans (iZ_add 118 ((gz Af 3) + 1))
          refine lv_iload_n hx hb dX12_goes_153 rfl (lv_at hl 1 rfl) ?_
          refine va_iast hx hb hK hP hD hS 1 1 rfl rfl (zin (e := (118 + ((gz Af 3) + 1))) (n := 5340) ⟨by omega, by omega⟩ (bl rfl)) dX12_goes_154 (fun H locs hP hD hS => ?_)
          obtain ⟨f_11, hf_11⟩ : ∃ gg9, gg9 = upd Af (iZ (118 + ((gz Af 3) + 1))).toNatClampNeg (iZ v2_27) := ⟨_, rfl⟩
          rw [← hf_11] at hP hD
          refine lv_aload_n hx hb dX12_goes_155 rfl (lv_at hl 3 rfl) ?_
          refine va_get (D := D) (ci := 12) (v := .ref Ma) (C := RX12) (T := TX12) (N := 36) hx hb hts iX12 hown hK hP 0 rfl rfl 0 (bl rfl) (hts _ qf_X12_7) (fun _ h => h) f0 dX12_goes_156 ?_
          refine lv_iconst (v := iZ 3) hx hb dX12_goes_159 rfl ?_
          refine lv_iload_n hx hb dX12_goes_160 rfl (lv_at hl 2 rfl) ?_
          refine va_iast hx hb hK hP hD hS 1 1 rfl rfl (zin (e := 3) (n := 5340) ⟨by omega, by omega⟩ (bl rfl)) dX12_goes_161 (fun H locs hP hD hS => ?_)
          obtain ⟨f_12, hf_12⟩ : ∃ gg9, gg9 = upd f_11 (iZ 3).toNatClampNeg (iZ ((gz Af 3) + 1)) := ⟨_, rfl⟩
          rw [← hf_12] at hP hD
          refine lv_iconst (v := iZ 1) hx hb dX12_goes_162 rfl ?_
          exact EWz hx hb hr hlocks hS (1, 0, f_12, ()) rfl rfl ⟨(show M0 f_12 from (M0.now (M0.far hM hf_11 (Or.inl ⟨by omega, by omega⟩) ⟨by omega, by omega⟩) hf_12 ⟨by omega, by omega⟩)), (show FR f_12 Af from (FR.tr (FR.up hf_12 (Or.inl rfl) ⟨by omega, by omega⟩) (FR.up hf_11 (Or.inr (Or.inr ⟨by omega, by omega⟩)) ⟨by omega, by omega⟩))), (show ((1 : Int) = 0 ∧ gz Af 3 = 400 ∧ f_12 = Af) ∨ ((1 : Int) = 1 ∧ gz Af 3 < 400 ∧ rL f_12 = gsF (eR Af) (rL Af)) from (Or.inr ⟨rfl, by omega, (by have n1 := fun (j : Int) hj => gz_up (j := j) hf_11 ⟨by omega, by omega⟩ ⟨by omega, by omega⟩ hj; have n2 := fun (j : Int) hj => gz_up (j := j) hf_12 ⟨by omega, by omega⟩ ⟨by omega, by omega⟩ hj; exact rL_gs (s := v2_27) (by rw [n2 3 (by omega), if_pos rfl]) (by rw [n2 4 (by omega), if_neg (by omega), n1 4 (by omega), if_neg (by omega)]) ⟨by omega, by omega⟩ ⟨by omega, by omega⟩ (by rw [n2 _ (by omega), if_neg (by omega), n1 _ (by omega), if_pos (by omega)]) (nxV_eq (e := eR Af) (by have e9 : v3_27 = gz Af 0 := (by omega); rw [e9] at hst; exact hst) ⟨by omega, by omega⟩) (fun j h1 h2 => by rw [n2 j (by omega), if_neg (by omega), n1 j (by omega), if_neg (by omega)]))⟩))⟩ (hP.sub [0, 1] rfl) (hD.sub [0, 1] rfl rfl) dX12_goes_163
        ·
          have c_9 := mt (zle (x := iZ (gz Af 0)) (y := iZ v3_27) rfl rfl (gz_rg Af 0) ⟨by omega, by omega⟩).mpr c_9
          refine lv_iconst (v := iZ 0) hx hb dX12_goes_37 rfl ?_
          refine lv_istore (lv' := [(4, .int (iZ 0)), (3, .int (iZ v3_27)), (2, .int (iZ v2_27)), (1, .int (iZ ((gz Af 3) + 1))), (0, .ref hm)]) hx hb dX12_goes_38 hl (bl rfl) rfl (fun ls hl => ?_)
          refine lv_iconst (v := iZ 0) hx hb dX12_goes_40 rfl ?_
          refine lv_istore (lv' := [(5, .int (iZ 0)), (4, .int (iZ 0)), (3, .int (iZ v3_27)), (2, .int (iZ v2_27)), (1, .int (iZ ((gz Af 3) + 1))), (0, .ref hm)]) hx hb dX12_goes_41 hl (bl rfl) rfl (fun ls hl => ?_)
          have HL43 : ∀ (fu : Nat) (v4_43 : Int) (v5_43 : Int) (H : Heap) (locs : List Loc) (ls : Array Slot), ((gz Af 0 - 1) + 2 - v5_43) < (fu : Int) → ((0 ≤ v5_43 ∧ v5_43 ≤ (gz Af 0 - 1) + 1)) → (-(v5_43) ≤ v4_43 ∧ v4_43 ≤ v5_43) → (v4_43 = mrF (eR Af) (gz Af 3) (cut (gz Af 3 + 1) (gz (sh Af 118))) v3_27 (Int.toNat (v5_43))) → va_P D vwCl [(hm, .inr (12, fs)), (Ma, .inl (k 1, 5340, .inl Af))] H → va_D A [(hm, .inr (12, fs)), (Ma, .inl (k 1, 5340, .inl Af))] → va_S A s.heap H locs → lv_has ls 7 [(5, .int (iZ v5_43)), (4, .int (iZ v4_43)), (3, .int (iZ v3_27)), (2, .int (iZ v2_27)), (1, .int (iZ ((gz Af 3) + 1))), (0, .ref hm)] → W p l e (rj 7 0 0) s m [.ref hm].toArray below meth c H locs 0 0 (MQ below (QW (σ := ((Int) × (Int64) × ((Nat → Int32)) × (Unit))) (fun u => some (.int (iZ u.1))) (fun u => (M0 u.2.2.1) ∧ (FR u.2.2.1 Af) ∧ (((u.1 : Int) = 0 ∧ gz Af 3 = 400 ∧ u.2.2.1 = Af) ∨ ((u.1 : Int) = 1 ∧ gz Af 3 < 400 ∧ rL u.2.2.1 = gsF (eR Af) (rL Af)))) (fun u => [(hm, .inr (12, fs)), (Ma, .inl (k 1, 5340, .inl u.2.2.1))]) D A) [.ref hm].toArray s 0 0 A) (F0 m 43 ls []) := by
            intro fu
            induction fu with
            | zero => intro v4_43 v5_43 H locs ls hμ43 hi43 hf0_43 hmr hP hD hS hl; exact absurd hμ43 (by omega)
            | succ fu ih43 =>
              intro v4_43 v5_43 H locs ls hμ43 hi43 hf0_43 hmr hP hD hS hl
              refine lv_iload hx hb dX12_goes_43 (lv_at hl 0 rfl) ?_
              refine lv_aload_n hx hb dX12_goes_45 rfl (lv_at hl 5 rfl) ?_
              refine va_get (D := D) (ci := 12) (v := .ref Ma) (C := RX12) (T := TX12) (N := 36) hx hb hts iX12 hown hK hP 0 rfl rfl 0 (bl rfl) (hts _ qf_X12_7) (fun _ h => h) f0 dX12_goes_46 ?_
              refine lv_iconst (v := iZ 0) hx hb dX12_goes_49 rfl ?_
              refine va_iald hx hb hK hP 1 1 rfl rfl (zin (e := 0) (n := 5340) ⟨by omega, by omega⟩ (bl rfl)) dX12_goes_50 ?_
              refine lv_topi (fun x_13 ex_13 => ?_)
              obtain rfl : x_13 = iZ (gz Af 0) := ex_13.trans (gz_eq ⟨by omega, by omega⟩)
              have h_14 := gz_rg Af 0
              refine lv_icmp_ge (tgt := 105) hx hb dX12_goes_51 rfl (fun c_15 => ?_) (fun c_15 => ?_)
              ·
                have c_15 := (zle (x := iZ (gz Af 0)) (y := iZ v5_43) rfl rfl (gz_rg Af 0) ⟨by omega, by omega⟩).mp c_15
                refine lv_iload_n hx hb dX12_goes_105 rfl (lv_at hl 3 rfl) ?_
                refine lv_iload hx hb dX12_goes_106 (lv_at hl 1 rfl) ?_
                refine lv_if_le (tgt := 115) hx hb dX12_goes_108 rfl (fun c_16 => ?_) (fun c_16 => ?_)
                ·
                  have c_16 := (zle (x := iZ v4_43) (y := iZ 0) rfl rfl ⟨by omega, by omega⟩ wn_0).mp c_16
                  refine lv_iload hx hb dX12_goes_115 (lv_at hl 1 rfl) ?_
                  refine lv_if_ge (tgt := 124) hx hb dX12_goes_117 rfl (fun c_17 => ?_) (fun c_17 => ?_)
                  ·
                    have c_17 := (zle (x := iZ 0) (y := iZ v4_43) rfl rfl wn_0 ⟨by omega, by omega⟩).mp c_17
                    refine lv_aload_n hx hb dX12_goes_124 rfl (lv_at hl 5 rfl) ?_
                    refine lv_iload_n hx hb dX12_goes_125 rfl (lv_at hl 2 rfl) ?_
                    refine lv_aload_n hx hb dX12_goes_126 rfl (lv_at hl 5 rfl) ?_
                    refine va_get (D := D) (ci := 12) (v := .ref Ma) (C := RX12) (T := TX12) (N := 36) hx hb hts iX12 hown hK hP 0 rfl rfl 0 (bl rfl) (hts _ qf_X12_7) (fun _ h => h) f0 dX12_goes_127 ?_
                    refine lv_iconst (v := iZ 3) hx hb dX12_goes_130 rfl ?_
                    refine va_iald hx hb hK hP 1 1 rfl rfl (zin (e := 3) (n := 5340) ⟨by omega, by omega⟩ (bl rfl)) dX12_goes_131 ?_
                    refine lv_topi (fun x_18 ex_18 => ?_)
                    obtain rfl : x_18 = iZ (gz Af 3) := ex_18.trans (gz_eq ⟨by omega, by omega⟩)
                    have h_19 := gz_rg Af 3
                    refine CPV (As := [.int (iZ v3_27), .int (iZ (gz Af 3))]) (rest := [.int (iZ v2_27)]) hx hb hml hown hts hKK hP (m_wore l D k fs hm Ma Af v3_27 (gz Af 3) f0 hM ⟨by omega, by omega⟩) ci_X12_woreIn qm_X12_363 ⟨Nat.le_of_ble_eq_true rfl, Nat.le_of_ble_eq_true rfl⟩ ⟨Nat.le_of_ble_eq_true rfl, Nat.le_of_ble_eq_true rfl⟩ 0 rfl rfl rfl hl.1 rfl (Nat.le_of_ble_eq_true rfl) dX12_goes_132 (fun z_20 hz_20 => ?_)
                    have hbz_20 := hz_20.2
                    refine lv_iload_n hx hb dX12_goes_135 rfl (lv_at hl 2 rfl) ?_
                    refine lv_ishl hx hb dX12_goes_136 ?_
                    refine lv_topi (fun x_22 ex_22 => ?_)
                    obtain ⟨z_21, hz_21, hz_21a, hz_21b⟩ := i32_z x_22
                    subst hz_21
                    refine lv_ior hx hb dX12_goes_137 ?_
                    refine lv_topi (fun x_24 ex_24 => ?_)
                    obtain ⟨z_23, hz_23, hz_23a, hz_23b⟩ := i32_z x_24
                    subst hz_23
                    refine lv_istore_n (lv' := [(2, .int (iZ z_23)), (5, .int (iZ v5_43)), (4, .int (iZ v4_43)), (3, .int (iZ v3_27)), (1, .int (iZ ((gz Af 3) + 1))), (0, .ref hm)]) hx hb dX12_goes_138 rfl hl (bl rfl) rfl (fun ls hl => ?_)
                    refine lv_iinc (v := iZ (v3_27 + 1)) (lv' := [(3, .int (iZ (v3_27 + 1))), (2, .int (iZ z_23)), (5, .int (iZ v5_43)), (4, .int (iZ v4_43)), (1, .int (iZ ((gz Af 3) + 1))), (0, .ref hm)]) hx hb dX12_goes_139 hl (k := 3) rfl (iZ_add v3_27 1) (by decide) rfl (fun ls hl => ?_)
                    refine lv_goto (tgt := 27) hx hb dX12_goes_142 rfl ?_
                    exact ih27  z_23 (v3_27 + 1) _ _ _ (by omega) (show (0 ≤ (v3_27 + 1) ∧ (v3_27 + 1) ≤ (gz Af 0 - 1) + 1) from ⟨by omega, by omega⟩) (show -2147483648 ≤ z_23 ∧ z_23 < 2147483648 from (by omega)) (show iZ z_23 = bS (nxP (eR Af) (gz Af 3) (cut (gz Af 3 + 1) (gz (sh Af 118)))) (Int.toNat ((v3_27 + 1))) from (sB_v hst (by omega) (show ((z_20 : Int) = 1 ∧ nxP (eR Af) (gz Af 3) (cut (gz Af 3 + 1) (gz (sh Af 118))) v3_27) ∨ ((z_20 : Int) = 0 ∧ ¬ nxP (eR Af) (gz Af 3) (cut (gz Af 3 + 1) (gz (sh Af 118))) v3_27) from by have e9 : v5_43 = gz Af 0 := (by omega); rw [e9] at hmr; have b9 := wB_eq hz_20.1 hz_20.2; have n9 := nx_r (A := Af) (r := v3_27) (by omega); rcases n9 with ⟨n8, n7⟩ | ⟨n8, n7⟩; exact Or.inl ⟨by omega, n7⟩; exact Or.inr ⟨by omega, n7⟩) ex_22 ex_24)) (hP.sub [0, 1] rfl) (hD.sub [0, 1] rfl rfl) hS (lv_sub hl [0, 1, 4, 5] rfl)
                  ·
                    have c_17 := mt (zle (x := iZ 0) (y := iZ v4_43) rfl rfl wn_0 ⟨by omega, by omega⟩).mpr c_17
                    refine lv_iconst (v := iZ 0) hx hb dX12_goes_120 rfl ?_
                    refine lv_goto (tgt := 135) hx hb dX12_goes_121 rfl ?_
                    refine lv_iload_n hx hb dX12_goes_135 rfl (lv_at hl 2 rfl) ?_
                    refine lv_ishl hx hb dX12_goes_136 ?_
                    refine lv_topi (fun x_26 ex_26 => ?_)
                    obtain ⟨z_25, hz_25, hz_25a, hz_25b⟩ := i32_z x_26
                    subst hz_25
                    refine lv_ior hx hb dX12_goes_137 ?_
                    refine lv_topi (fun x_28 ex_28 => ?_)
                    obtain ⟨z_27, hz_27, hz_27a, hz_27b⟩ := i32_z x_28
                    subst hz_27
                    refine lv_istore_n (lv' := [(2, .int (iZ z_27)), (5, .int (iZ v5_43)), (4, .int (iZ v4_43)), (3, .int (iZ v3_27)), (1, .int (iZ ((gz Af 3) + 1))), (0, .ref hm)]) hx hb dX12_goes_138 rfl hl (bl rfl) rfl (fun ls hl => ?_)
                    refine lv_iinc (v := iZ (v3_27 + 1)) (lv' := [(3, .int (iZ (v3_27 + 1))), (2, .int (iZ z_27)), (5, .int (iZ v5_43)), (4, .int (iZ v4_43)), (1, .int (iZ ((gz Af 3) + 1))), (0, .ref hm)]) hx hb dX12_goes_139 hl (k := 3) rfl (iZ_add v3_27 1) (by decide) rfl (fun ls hl => ?_)
                    refine lv_goto (tgt := 27) hx hb dX12_goes_142 rfl ?_
                    exact ih27  z_27 (v3_27 + 1) _ _ _ (by omega) (show (0 ≤ (v3_27 + 1) ∧ (v3_27 + 1) ≤ (gz Af 0 - 1) + 1) from ⟨by omega, by omega⟩) (show -2147483648 ≤ z_27 ∧ z_27 < 2147483648 from (by omega)) (show iZ z_27 = bS (nxP (eR Af) (gz Af 3) (cut (gz Af 3 + 1) (gz (sh Af 118)))) (Int.toNat ((v3_27 + 1))) from (sB_v hst (by omega) (show ((0 : Int) = 1 ∧ nxP (eR Af) (gz Af 3) (cut (gz Af 3 + 1) (gz (sh Af 118))) v3_27) ∨ ((0 : Int) = 0 ∧ ¬ nxP (eR Af) (gz Af 3) (cut (gz Af 3 + 1) (gz (sh Af 118))) v3_27) from by have e9 : v5_43 = gz Af 0 := (by omega); rw [e9] at hmr; have n9 := nx_r (A := Af) (r := v3_27) (by omega); rcases n9 with ⟨n8, n7⟩ | ⟨n8, n7⟩; exact Or.inl ⟨by omega, n7⟩; exact Or.inr ⟨by omega, n7⟩) ex_26 ex_28)) (hP.sub [0, 1] rfl) (hD.sub [0, 1] rfl rfl) hS (lv_sub hl [0, 1, 4, 5] rfl)
                ·
                  have c_16 := mt (zle (x := iZ v4_43) (y := iZ 0) rfl rfl ⟨by omega, by omega⟩ wn_0).mpr c_16
                  refine lv_iconst (v := iZ 1) hx hb dX12_goes_111 rfl ?_
                  refine lv_goto (tgt := 135) hx hb dX12_goes_112 rfl ?_
                  refine lv_iload_n hx hb dX12_goes_135 rfl (lv_at hl 2 rfl) ?_
                  refine lv_ishl hx hb dX12_goes_136 ?_
                  refine lv_topi (fun x_30 ex_30 => ?_)
                  obtain ⟨z_29, hz_29, hz_29a, hz_29b⟩ := i32_z x_30
                  subst hz_29
                  refine lv_ior hx hb dX12_goes_137 ?_
                  refine lv_topi (fun x_32 ex_32 => ?_)
                  obtain ⟨z_31, hz_31, hz_31a, hz_31b⟩ := i32_z x_32
                  subst hz_31
                  refine lv_istore_n (lv' := [(2, .int (iZ z_31)), (5, .int (iZ v5_43)), (4, .int (iZ v4_43)), (3, .int (iZ v3_27)), (1, .int (iZ ((gz Af 3) + 1))), (0, .ref hm)]) hx hb dX12_goes_138 rfl hl (bl rfl) rfl (fun ls hl => ?_)
                  refine lv_iinc (v := iZ (v3_27 + 1)) (lv' := [(3, .int (iZ (v3_27 + 1))), (2, .int (iZ z_31)), (5, .int (iZ v5_43)), (4, .int (iZ v4_43)), (1, .int (iZ ((gz Af 3) + 1))), (0, .ref hm)]) hx hb dX12_goes_139 hl (k := 3) rfl (iZ_add v3_27 1) (by decide) rfl (fun ls hl => ?_)
                  refine lv_goto (tgt := 27) hx hb dX12_goes_142 rfl ?_
                  exact ih27  z_31 (v3_27 + 1) _ _ _ (by omega) (show (0 ≤ (v3_27 + 1) ∧ (v3_27 + 1) ≤ (gz Af 0 - 1) + 1) from ⟨by omega, by omega⟩) (show -2147483648 ≤ z_31 ∧ z_31 < 2147483648 from (by omega)) (show iZ z_31 = bS (nxP (eR Af) (gz Af 3) (cut (gz Af 3 + 1) (gz (sh Af 118)))) (Int.toNat ((v3_27 + 1))) from (sB_v hst (by omega) (show ((1 : Int) = 1 ∧ nxP (eR Af) (gz Af 3) (cut (gz Af 3 + 1) (gz (sh Af 118))) v3_27) ∨ ((1 : Int) = 0 ∧ ¬ nxP (eR Af) (gz Af 3) (cut (gz Af 3 + 1) (gz (sh Af 118))) v3_27) from by have e9 : v5_43 = gz Af 0 := (by omega); rw [e9] at hmr; have n9 := nx_r (A := Af) (r := v3_27) (by omega); rcases n9 with ⟨n8, n7⟩ | ⟨n8, n7⟩; exact Or.inl ⟨by omega, n7⟩; exact Or.inr ⟨by omega, n7⟩) ex_30 ex_32)) (hP.sub [0, 1] rfl) (hD.sub [0, 1] rfl rfl) hS (lv_sub hl [0, 1, 4, 5] rfl)
              ·
                have c_15 := mt (zle (x := iZ (gz Af 0)) (y := iZ v5_43) rfl rfl (gz_rg Af 0) ⟨by omega, by omega⟩).mpr c_15
                refine lv_iload hx hb dX12_goes_54 (lv_at hl 0 rfl) ?_
                refine lv_iload_n hx hb dX12_goes_56 rfl (lv_at hl 2 rfl) ?_
                refine lv_icmp_ne (tgt := 64) hx hb dX12_goes_57 rfl (fun c_33 => ?_) (fun c_33 => ?_)
                ·
                  have c_33 := mt (zeq (x := iZ v5_43) (y := iZ v3_27) rfl rfl ⟨by omega, by omega⟩ ⟨by omega, by omega⟩).mpr c_33
                  refine lv_aload_n hx hb dX12_goes_64 rfl (lv_at hl 5 rfl) ?_
                  refine lv_iload_n hx hb dX12_goes_65 rfl (lv_at hl 2 rfl) ?_
                  refine lv_iload hx hb dX12_goes_66 (lv_at hl 0 rfl) ?_
                  refine lv_iload_n hx hb dX12_goes_68 rfl (lv_at hl 4 rfl) ?_
                  refine CPV (As := [.int (iZ v3_27), .int (iZ v5_43), .int (iZ ((gz Af 3) + 1))]) (rest := []) hx hb hml hown hts hKK hP (r_fseen l D k fs hm Ma Af v3_27 v5_43 ((gz Af 3) + 1) f0 hM ⟨by omega, by omega⟩ ⟨by omega, by omega⟩ ⟨by omega, by omega⟩) ci_X12_fashionSeen qm_X12_366 ⟨Nat.le_of_ble_eq_true rfl, Nat.le_of_ble_eq_true rfl⟩ ⟨Nat.le_of_ble_eq_true rfl, Nat.le_of_ble_eq_true rfl⟩ 0 rfl rfl rfl hl.1 rfl (Nat.le_of_ble_eq_true rfl) dX12_goes_69 (fun z_34 hz_34 => ?_)
                  have hbz_34 : z_34 = -1 ∨ z_34 = 0 ∨ z_34 = 1 := by rcases hz_34 with q | q; exact Or.inl q.1; exact Or.inr q.2.2
                  refine lv_istore (lv' := [(6, .int (iZ z_34)), (5, .int (iZ v5_43)), (4, .int (iZ v4_43)), (3, .int (iZ v3_27)), (2, .int (iZ v2_27)), (1, .int (iZ ((gz Af 3) + 1))), (0, .ref hm)]) hx hb dX12_goes_72 hl (bl rfl) rfl (fun ls hl => ?_)
                  refine lv_iload hx hb dX12_goes_74 (lv_at hl 2 rfl) ?_
                  refine lv_iload hx hb dX12_goes_76 (lv_at hl 0 rfl) ?_
                  refine lv_iconst (v := iZ 1) hx hb dX12_goes_78 rfl ?_
                  refine lv_icmp_ne (tgt := 86) hx hb dX12_goes_79 rfl (fun c_35 => ?_) (fun c_35 => ?_)
                  ·
                    have c_35 := mt (zeq (x := iZ z_34) (y := iZ 1) rfl rfl ⟨by omega, by omega⟩ wn_1).mpr c_35
                    refine lv_iload hx hb dX12_goes_86 (lv_at hl 0 rfl) ?_
                    refine lv_if_ne (tgt := 95) hx hb dX12_goes_88 rfl (fun c_36 => ?_) (fun c_36 => ?_)
                    ·
                      have c_36 := mt (zeq (x := iZ z_34) (y := iZ 0) rfl rfl ⟨by omega, by omega⟩ wn_0).mpr c_36
                      refine lv_iconst (v := iZ 0) hx hb dX12_goes_95 rfl ?_
                      refine lv_iadd hx hb dX12_goes_96 ?_
                      refine lv_topi (fun x_37 ex_37 => ?_)
                      obtain rfl : x_37 = iZ (v4_43 + 0) := ex_37.trans (iZ_add v4_43 0)
                      refine lv_istore (lv' := [(4, .int (iZ (v4_43 + 0))), (6, .int (iZ z_34)), (5, .int (iZ v5_43)), (3, .int (iZ v3_27)), (2, .int (iZ v2_27)), (1, .int (iZ ((gz Af 3) + 1))), (0, .ref hm)]) hx hb dX12_goes_97 hl (bl rfl) rfl (fun ls hl => ?_)
                      refine lv_iinc (v := iZ (v5_43 + 1)) (lv' := [(5, .int (iZ (v5_43 + 1))), (4, .int (iZ (v4_43 + 0))), (6, .int (iZ z_34)), (3, .int (iZ v3_27)), (2, .int (iZ v2_27)), (1, .int (iZ ((gz Af 3) + 1))), (0, .ref hm)]) hx hb dX12_goes_99 hl (k := 2) rfl (iZ_add v5_43 1) (by decide) rfl (fun ls hl => ?_)
                      refine lv_goto (tgt := 43) hx hb dX12_goes_102 rfl ?_
                      exact ih43  (v4_43 + 0) (v5_43 + 1) _ _ _ (by omega) (show (0 ≤ (v5_43 + 1) ∧ (v5_43 + 1) ≤ (gz Af 0 - 1) + 1) from ⟨by omega, by omega⟩) (show -((v5_43 + 1)) ≤ (v4_43 + 0) ∧ (v4_43 + 0) ≤ (v5_43 + 1) from (by omega)) (show (v4_43 + 0) = mrF (eR Af) (gz Af 3) (cut (gz Af 3 + 1) (gz (sh Af 118))) v3_27 (Int.toNat ((v5_43 + 1))) from (by have m9 := rmr hM (r := v3_27) (i := v5_43) ⟨by omega, by omega⟩ ⟨by omega, by omega⟩ (by omega); have b9 := fs_bit hz_34; omega)) (hP.sub [0, 1] rfl) (hD.sub [0, 1] rfl rfl) hS (lv_sub hl [0, 1, 3, 4, 5, 6] rfl)
                    ·
                      have c_36 := (zeq (x := iZ z_34) (y := iZ 0) rfl rfl ⟨by omega, by omega⟩ wn_0).mp c_36
                      refine lv_iconst (v := iZ (-1)) hx hb dX12_goes_91 rfl ?_
                      refine lv_goto (tgt := 96) hx hb dX12_goes_92 rfl ?_
                      refine lv_iadd hx hb dX12_goes_96 ?_
                      refine lv_topi (fun x_38 ex_38 => ?_)
                      obtain rfl : x_38 = iZ (v4_43 + (-1)) := ex_38.trans (iZ_add v4_43 (-1))
                      refine lv_istore (lv' := [(4, .int (iZ (v4_43 + (-1)))), (6, .int (iZ z_34)), (5, .int (iZ v5_43)), (3, .int (iZ v3_27)), (2, .int (iZ v2_27)), (1, .int (iZ ((gz Af 3) + 1))), (0, .ref hm)]) hx hb dX12_goes_97 hl (bl rfl) rfl (fun ls hl => ?_)
                      refine lv_iinc (v := iZ (v5_43 + 1)) (lv' := [(5, .int (iZ (v5_43 + 1))), (4, .int (iZ (v4_43 + (-1)))), (6, .int (iZ z_34)), (3, .int (iZ v3_27)), (2, .int (iZ v2_27)), (1, .int (iZ ((gz Af 3) + 1))), (0, .ref hm)]) hx hb dX12_goes_99 hl (k := 2) rfl (iZ_add v5_43 1) (by decide) rfl (fun ls hl => ?_)
                      refine lv_goto (tgt := 43) hx hb dX12_goes_102 rfl ?_
                      exact ih43  (v4_43 + (-1)) (v5_43 + 1) _ _ _ (by omega) (show (0 ≤ (v5_43 + 1) ∧ (v5_43 + 1) ≤ (gz Af 0 - 1) + 1) from ⟨by omega, by omega⟩) (show -((v5_43 + 1)) ≤ (v4_43 + (-1)) ∧ (v4_43 + (-1)) ≤ (v5_43 + 1) from (by omega)) (show (v4_43 + (-1)) = mrF (eR Af) (gz Af 3) (cut (gz Af 3 + 1) (gz (sh Af 118))) v3_27 (Int.toNat ((v5_43 + 1))) from (by have m9 := rmr hM (r := v3_27) (i := v5_43) ⟨by omega, by omega⟩ ⟨by omega, by omega⟩ (by omega); have b9 := fs_bit hz_34; omega)) (hP.sub [0, 1] rfl) (hD.sub [0, 1] rfl rfl) hS (lv_sub hl [0, 1, 3, 4, 5, 6] rfl)
                  ·
                    have c_35 := (zeq (x := iZ z_34) (y := iZ 1) rfl rfl ⟨by omega, by omega⟩ wn_1).mp c_35
                    refine lv_iconst (v := iZ 1) hx hb dX12_goes_82 rfl ?_
                    refine lv_goto (tgt := 96) hx hb dX12_goes_83 rfl ?_
                    refine lv_iadd hx hb dX12_goes_96 ?_
                    refine lv_topi (fun x_39 ex_39 => ?_)
                    obtain rfl : x_39 = iZ (v4_43 + 1) := ex_39.trans (iZ_add v4_43 1)
                    refine lv_istore (lv' := [(4, .int (iZ (v4_43 + 1))), (6, .int (iZ z_34)), (5, .int (iZ v5_43)), (3, .int (iZ v3_27)), (2, .int (iZ v2_27)), (1, .int (iZ ((gz Af 3) + 1))), (0, .ref hm)]) hx hb dX12_goes_97 hl (bl rfl) rfl (fun ls hl => ?_)
                    refine lv_iinc (v := iZ (v5_43 + 1)) (lv' := [(5, .int (iZ (v5_43 + 1))), (4, .int (iZ (v4_43 + 1))), (6, .int (iZ z_34)), (3, .int (iZ v3_27)), (2, .int (iZ v2_27)), (1, .int (iZ ((gz Af 3) + 1))), (0, .ref hm)]) hx hb dX12_goes_99 hl (k := 2) rfl (iZ_add v5_43 1) (by decide) rfl (fun ls hl => ?_)
                    refine lv_goto (tgt := 43) hx hb dX12_goes_102 rfl ?_
                    exact ih43  (v4_43 + 1) (v5_43 + 1) _ _ _ (by omega) (show (0 ≤ (v5_43 + 1) ∧ (v5_43 + 1) ≤ (gz Af 0 - 1) + 1) from ⟨by omega, by omega⟩) (show -((v5_43 + 1)) ≤ (v4_43 + 1) ∧ (v4_43 + 1) ≤ (v5_43 + 1) from (by omega)) (show (v4_43 + 1) = mrF (eR Af) (gz Af 3) (cut (gz Af 3 + 1) (gz (sh Af 118))) v3_27 (Int.toNat ((v5_43 + 1))) from (by have m9 := rmr hM (r := v3_27) (i := v5_43) ⟨by omega, by omega⟩ ⟨by omega, by omega⟩ (by omega); have b9 := fs_bit hz_34; omega)) (hP.sub [0, 1] rfl) (hD.sub [0, 1] rfl rfl) hS (lv_sub hl [0, 1, 3, 4, 5, 6] rfl)
                ·
                  have c_33 := (zeq (x := iZ v5_43) (y := iZ v3_27) rfl rfl ⟨by omega, by omega⟩ ⟨by omega, by omega⟩).mp c_33
                  refine lv_iconst (v := iZ (-1)) hx hb dX12_goes_60 rfl ?_
                  refine lv_goto (tgt := 72) hx hb dX12_goes_61 rfl ?_
                  refine lv_istore (lv' := [(6, .int (iZ (-1))), (5, .int (iZ v5_43)), (4, .int (iZ v4_43)), (3, .int (iZ v3_27)), (2, .int (iZ v2_27)), (1, .int (iZ ((gz Af 3) + 1))), (0, .ref hm)]) hx hb dX12_goes_72 hl (bl rfl) rfl (fun ls hl => ?_)
                  refine lv_iload hx hb dX12_goes_74 (lv_at hl 2 rfl) ?_
                  refine lv_iload hx hb dX12_goes_76 (lv_at hl 0 rfl) ?_
                  refine lv_iconst (v := iZ 1) hx hb dX12_goes_78 rfl ?_
                  refine lv_icmp_ne (tgt := 86) hx hb dX12_goes_79 rfl (fun _ => ?_) (fun c => absurd c (by decide))
                  refine lv_iload hx hb dX12_goes_86 (lv_at hl 0 rfl) ?_
                  refine lv_if_ne (tgt := 95) hx hb dX12_goes_88 rfl (fun _ => ?_) (fun c => absurd c (by decide))
                  refine lv_iconst (v := iZ 0) hx hb dX12_goes_95 rfl ?_
                  refine lv_iadd hx hb dX12_goes_96 ?_
                  refine lv_topi (fun x_42 ex_42 => ?_)
                  obtain rfl : x_42 = iZ (v4_43 + 0) := ex_42.trans (iZ_add v4_43 0)
                  refine lv_istore (lv' := [(4, .int (iZ (v4_43 + 0))), (6, .int (iZ (-1))), (5, .int (iZ v5_43)), (3, .int (iZ v3_27)), (2, .int (iZ v2_27)), (1, .int (iZ ((gz Af 3) + 1))), (0, .ref hm)]) hx hb dX12_goes_97 hl (bl rfl) rfl (fun ls hl => ?_)
                  refine lv_iinc (v := iZ (v5_43 + 1)) (lv' := [(5, .int (iZ (v5_43 + 1))), (4, .int (iZ (v4_43 + 0))), (6, .int (iZ (-1))), (3, .int (iZ v3_27)), (2, .int (iZ v2_27)), (1, .int (iZ ((gz Af 3) + 1))), (0, .ref hm)]) hx hb dX12_goes_99 hl (k := 2) rfl (iZ_add v5_43 1) (by decide) rfl (fun ls hl => ?_)
                  refine lv_goto (tgt := 43) hx hb dX12_goes_102 rfl ?_
                  exact ih43  (v4_43 + 0) (v5_43 + 1) _ _ _ (by omega) (show (0 ≤ (v5_43 + 1) ∧ (v5_43 + 1) ≤ (gz Af 0 - 1) + 1) from ⟨by omega, by omega⟩) (show -((v5_43 + 1)) ≤ (v4_43 + 0) ∧ (v4_43 + 0) ≤ (v5_43 + 1) from (by omega)) (show (v4_43 + 0) = mrF (eR Af) (gz Af 3) (cut (gz Af 3 + 1) (gz (sh Af 118))) v3_27 (Int.toNat ((v5_43 + 1))) from (by have m9 := rmr hM (r := v3_27) (i := v5_43) ⟨by omega, by omega⟩ ⟨by omega, by omega⟩ (by omega); omega)) (hP.sub [0, 1] rfl) (hD.sub [0, 1] rfl rfl) hS (lv_sub hl [0, 1, 3, 4, 5, 6] rfl)
          exact HL43 9 0 0 _ _ _ (by omega) (show (0 ≤ 0 ∧ 0 ≤ (gz Af 0 - 1) + 1) from ⟨by omega, by omega⟩) (show -(0) ≤ 0 ∧ 0 ≤ 0 from (by omega)) (show 0 = mrF (eR Af) (gz Af 3) (cut (gz Af 3 + 1) (gz (sh Af 118))) v3_27 (Int.toNat (0)) from rfl) (hP.sub [0, 1] rfl) (hD.sub [0, 1] rfl rfl) hS (lv_sub hl [0, 1, 2, 3, 4, 5] rfl)
    exact HL27 9 0 0 _ _ _ (by omega) (show (0 ≤ 0 ∧ 0 ≤ (gz Af 0 - 1) + 1) from ⟨by omega, by omega⟩) (show -2147483648 ≤ 0 ∧ 0 < 2147483648 from (by omega)) (show iZ 0 = bS (nxP (eR Af) (gz Af 3) (cut (gz Af 3 + 1) (gz (sh Af 118)))) (Int.toNat (0)) from sB_0) (hP.sub [0, 1] rfl) (hD.sub [0, 1] rfl rfl) hS (lv_sub hl [0, 1, 2, 3] rfl)
  ·
    have c_3 := (zeq (x := iZ (gz Af 3)) (y := iZ 400) rfl rfl (gz_rg Af 3) wn_400).mp c_3
    refine lv_iconst (v := iZ 0) hx hb dX12_goes_12 rfl ?_
    exact EWz hx hb hr hlocks hS (0, 0, Af, ()) rfl rfl ⟨(show M0 Af from hM), (show FR Af Af from (FR.rf Af)), (show ((0 : Int) = 0 ∧ gz Af 3 = 400 ∧ Af = Af) ∨ ((0 : Int) = 1 ∧ gz Af 3 < 400 ∧ rL Af = gsF (eR Af) (rL Af)) from (Or.inl ⟨rfl, by omega, rfl⟩))⟩ (hP.sub [0, 1] rfl) (hD.sub [0, 1] rfl rfl) dX12_goes_13
end

section
set_option maxHeartbeats 4000000 in
set_option maxRecDepth 100000 in
theorem r_wears (l : Launch) (D : va_G) (k : Nat → ClassId) (fs : List Value) (hm : Nat) (Ma : Nat) (Af : Nat → Int32) (x : Int) (y : Int) (f0 : fs[0]? = some (.ref Ma)) (hM : M0 Af) : WD (σ := ((Int) × (Int64) × ((Nat → Int32)) × (Unit))) l yX12_wears cX12_wears 3 none 0 0 0 D k [.ref hm, .int (iZ x), .int (iZ y)] [(hm, .inr (12, fs)), (Ma, .inl (k 1, 5340, .inl Af))] (fun _ => none) (fun u => (M0 u.2.2.1) ∧ (FR u.2.2.1 Af) ∧ (rL u.2.2.1 = dsF x y (rL Af))) (fun u => [(hm, .inr (12, fs)), (Ma, .inl (k 1, 5340, .inl u.2.2.1))]) := by
  refine MW (by decide) (Nat.le_of_ble_eq_true rfl) (fun p e s m below meth c ls A hx hb hml hr hlocks hin hts hown hKK hP hD hS hA hl => ?_)
  have hK := hKK.1
  have hl : lv_has ls 3 [(0, .ref hm), (1, .int (iZ x)), (2, .int (iZ y))] := hl
  obtain ⟨m0, m1, m3, m4, m5, mF, mO, mS⟩ := id hM
  refine lv_aload_n hx hb dX12_wears_0 rfl (lv_at hl 0 rfl) ?_
  refine va_get (D := D) (ci := 12) (v := .ref Ma) (C := RX12) (T := TX12) (N := 36) hx hb hts iX12 hown hK hP 0 rfl rfl 0 (bl rfl) (hts _ qf_X12_7) (fun _ h => h) f0 dX12_wears_1 ?_
  refine lv_bipush (v := iZ 118) hx hb dX12_wears_4 bip_118 ?_
  refine lv_aload_n hx hb dX12_wears_6 rfl (lv_at hl 0 rfl) ?_
  refine va_get (D := D) (ci := 12) (v := .ref Ma) (C := RX12) (T := TX12) (N := 36) hx hb hts iX12 hown hK hP 0 rfl rfl 0 (bl rfl) (hts _ qf_X12_7) (fun _ h => h) f0 dX12_wears_7 ?_
  refine lv_iconst (v := iZ 3) hx hb dX12_wears_10 rfl ?_
  refine va_iald hx hb hK hP 1 1 rfl rfl (zin (e := 3) (n := 5340) ⟨by omega, by omega⟩ (bl rfl)) dX12_wears_11 ?_
  refine lv_topi (fun x_1 ex_1 => ?_)
  obtain rfl : x_1 = iZ (gz Af 3) := ex_1.trans (gz_eq ⟨by omega, by omega⟩)
  have h_2 := gz_rg Af 3
  refine lv_iadd hx hb dX12_wears_12 ?_
  refine lv_topi (fun x_3 ex_3 => ?_)
  obtain rfl : x_3 = iZ (118 + (gz Af 3)) := ex_3.trans (iZ_add 118 (gz Af 3))
  refine lv_aload_n hx hb dX12_wears_13 rfl (lv_at hl 0 rfl) ?_
  refine va_get (D := D) (ci := 12) (v := .ref Ma) (C := RX12) (T := TX12) (N := 36) hx hb hts iX12 hown hK hP 0 rfl rfl 0 (bl rfl) (hts _ qf_X12_7) (fun _ h => h) f0 dX12_wears_14 ?_
  refine lv_bipush (v := iZ 118) hx hb dX12_wears_17 bip_118 ?_
  refine lv_aload_n hx hb dX12_wears_19 rfl (lv_at hl 0 rfl) ?_
  refine va_get (D := D) (ci := 12) (v := .ref Ma) (C := RX12) (T := TX12) (N := 36) hx hb hts iX12 hown hK hP 0 rfl rfl 0 (bl rfl) (hts _ qf_X12_7) (fun _ h => h) f0 dX12_wears_20 ?_
  refine lv_iconst (v := iZ 3) hx hb dX12_wears_23 rfl ?_
  refine va_iald hx hb hK hP 1 1 rfl rfl (zin (e := 3) (n := 5340) ⟨by omega, by omega⟩ (bl rfl)) dX12_wears_24 ?_
  refine lv_topi (fun x_4 ex_4 => ?_)
  obtain rfl : x_4 = iZ (gz Af 3) := ex_4.trans (gz_eq ⟨by omega, by omega⟩)
  have h_5 := gz_rg Af 3
  refine lv_iadd hx hb dX12_wears_25 ?_
  refine lv_topi (fun x_6 ex_6 => ?_)
  obtain rfl : x_6 = iZ (118 + (gz Af 3)) := ex_6.trans (iZ_add 118 (gz Af 3))
  refine va_iald hx hb hK hP 1 1 rfl rfl (zin (e := (118 + (gz Af 3))) (n := 5340) ⟨by omega, by omega⟩ (bl rfl)) dX12_wears_26 ?_
  refine lv_topi (fun x_7 ex_7 => ?_)
  obtain rfl : x_7 = iZ (gz Af (118 + (gz Af 3))) := ex_7.trans (gz_eq ⟨by omega, by omega⟩)
  have h_8 := gz_rg Af (118 + (gz Af 3))
  refine lv_iconst (v := iZ 1) hx hb dX12_wears_27 rfl ?_
  refine lv_iload_n hx hb dX12_wears_28 rfl (lv_at hl 1 rfl) ?_
  refine lv_ishl hx hb dX12_wears_29 ?_
  refine lv_topi (fun x_10 ex_10 => ?_)
  obtain ⟨z_9, hz_9, hz_9a, hz_9b⟩ := i32_z x_10
  subst hz_9
  refine lv_iconst (v := iZ (-1)) hx hb dX12_wears_30 rfl ?_
  refine lv_ixor hx hb dX12_wears_31 ?_
  refine lv_topi (fun x_12 ex_12 => ?_)
  obtain ⟨z_11, hz_11, hz_11a, hz_11b⟩ := i32_z x_12
  subst hz_11
  refine lv_iand hx hb dX12_wears_32 ?_
  refine lv_topi (fun x_14 ex_14 => ?_)
  obtain ⟨z_13, hz_13, hz_13a, hz_13b⟩ := i32_z x_14
  subst hz_13
  refine lv_iload_n hx hb dX12_wears_33 rfl (lv_at hl 2 rfl) ?_
  refine lv_iload_n hx hb dX12_wears_34 rfl (lv_at hl 1 rfl) ?_
  refine lv_ishl hx hb dX12_wears_35 ?_
  refine lv_topi (fun x_16 ex_16 => ?_)
  obtain ⟨z_15, hz_15, hz_15a, hz_15b⟩ := i32_z x_16
  subst hz_15
  refine lv_ior hx hb dX12_wears_36 ?_
  refine lv_topi (fun x_18 ex_18 => ?_)
  obtain ⟨z_17, hz_17, hz_17a, hz_17b⟩ := i32_z x_18
  subst hz_17
  refine va_iast hx hb hK hP hD hS 1 1 rfl rfl (zin (e := (118 + (gz Af 3))) (n := 5340) ⟨by omega, by omega⟩ (bl rfl)) dX12_wears_37 (fun H locs hP hD hS => ?_)
  obtain ⟨f_19, hf_19⟩ : ∃ gg9, gg9 = upd Af (iZ (118 + (gz Af 3))).toNatClampNeg (iZ z_17) := ⟨_, rfl⟩
  rw [← hf_19] at hP hD
  exact EWv hx hb hr hlocks hS (0, 0, f_19, ()) rfl ⟨(show M0 f_19 from (M0.far hM hf_19 (Or.inl ⟨by omega, by omega⟩) ⟨by omega, by omega⟩)), (show FR f_19 Af from (FR.up hf_19 (Or.inr (Or.inr ⟨by omega, by omega⟩)) ⟨by omega, by omega⟩)), (show rL f_19 = dsF x y (rL Af) from (rL_ds hf_19 (by omega) ⟨by omega, by omega⟩ ⟨by omega, by omega⟩ (dsV_eq ex_10 ex_12 ex_14 ex_16 ex_18 ⟨hz_17a, hz_17b⟩)))⟩ (hP.sub [0, 1] rfl) (hD.sub [0, 1] rfl rfl) dX12_wears_38
set_option maxHeartbeats 4000000 in
set_option maxRecDepth 100000 in
theorem r_orders (l : Launch) (D : va_G) (k : Nat → ClassId) (fs : List Value) (hm : Nat) (Ma : Nat) (Af : Nat → Int32) (x : Int) (f0 : fs[0]? = some (.ref Ma)) (hM : M0 Af) (h9x : 0 ≤ x ∧ x < gz Af 0) : WD (σ := ((Int) × (Int64) × ((Nat → Int32)) × (Unit))) l yX12_orders cX12_orders 2 (some .boolean) 1 0 0 D k [.ref hm, .int (iZ x)] [(hm, .inr (12, fs)), (Ma, .inl (k 1, 5340, .inl Af))] (fun u => some (.int (iZ u.1))) (fun u => (M0 u.2.2.1) ∧ (FR u.2.2.1 Af) ∧ (((u.1 : Int) = 0 ∧ ¬ gz Af 4 < 20 ∧ u.2.2.1 = Af) ∨ ((u.1 : Int) = 1 ∧ gz Af 4 < 20 ∧ rL u.2.2.1 = odF x (rL Af)))) (fun u => [(hm, .inr (12, fs)), (Ma, .inl (k 1, 5340, .inl u.2.2.1))]) := by
  refine MW (by decide) (Nat.le_of_ble_eq_true rfl) (fun p e s m below meth c ls A hx hb hml hr hlocks hin hts hown hKK hP hD hS hA hl => ?_)
  have hK := hKK.1
  have hl : lv_has ls 2 [(0, .ref hm), (1, .int (iZ x))] := hl
  obtain ⟨m0, m1, m3, m4, m5, mF, mO, mS⟩ := id hM
  refine lv_aload_n hx hb dX12_orders_0 rfl (lv_at hl 0 rfl) ?_
  refine va_get (D := D) (ci := 12) (v := .ref Ma) (C := RX12) (T := TX12) (N := 36) hx hb hts iX12 hown hK hP 0 rfl rfl 0 (bl rfl) (hts _ qf_X12_7) (fun _ h => h) f0 dX12_orders_1 ?_
  refine lv_iconst (v := iZ 4) hx hb dX12_orders_4 rfl ?_
  refine va_iald hx hb hK hP 1 1 rfl rfl (zin (e := 4) (n := 5340) ⟨by omega, by omega⟩ (bl rfl)) dX12_orders_5 ?_
  refine lv_topi (fun x_1 ex_1 => ?_)
  obtain rfl : x_1 = iZ (gz Af 4) := ex_1.trans (gz_eq ⟨by omega, by omega⟩)
  have h_2 := gz_rg Af 4
  refine lv_bipush (v := iZ 20) hx hb dX12_orders_6 bip_20 ?_
  refine lv_icmp_ne (tgt := 13) hx hb dX12_orders_8 rfl (fun c_3 => ?_) (fun c_3 => ?_)
  ·
    have c_3 := mt (zeq (x := iZ (gz Af 4)) (y := iZ 20) rfl rfl (gz_rg Af 4) wn_20).mpr c_3
    refine lv_aload_n hx hb dX12_orders_13 rfl (lv_at hl 0 rfl) ?_
    refine va_get (D := D) (ci := 12) (v := .ref Ma) (C := RX12) (T := TX12) (N := 36) hx hb hts iX12 hown hK hP 0 rfl rfl 0 (bl rfl) (hts _ qf_X12_7) (fun _ h => h) f0 dX12_orders_14 ?_
    refine lv_aload_n hx hb dX12_orders_17 rfl (lv_at hl 0 rfl) ?_
    refine va_get (D := D) (ci := 12) (v := .ref Ma) (C := RX12) (T := TX12) (N := 36) hx hb hts iX12 hown hK hP 0 rfl rfl 0 (bl rfl) (hts _ qf_X12_7) (fun _ h => h) f0 dX12_orders_18 ?_
    refine lv_iconst (v := iZ 4) hx hb dX12_orders_21 rfl ?_
    refine va_iald hx hb hK hP 1 1 rfl rfl (zin (e := 4) (n := 5340) ⟨by omega, by omega⟩ (bl rfl)) dX12_orders_22 ?_
    refine lv_topi (fun x_4 ex_4 => ?_)
    obtain rfl : x_4 = iZ (gz Af 4) := ex_4.trans (gz_eq ⟨by omega, by omega⟩)
    have h_5 := gz_rg Af 4
    refine CRS (As := [.int (iZ (gz Af 4))]) (rest := [.ref Ma]) hx hb hml hown hts hKK (hP.sub (ws' := []) [] rfl) (m_givenRow l D k (gz Af 4)) ci_X12_givenRow qm_X12_315 ⟨Nat.le_of_ble_eq_true rfl, Nat.le_of_ble_eq_true rfl⟩ ⟨Nat.le_of_ble_eq_true rfl, Nat.le_of_ble_eq_true rfl⟩ rfl hl.1 rfl (Nat.le_of_ble_eq_true rfl) dX12_orders_23 ?_
    refine lv_iload_n hx hb dX12_orders_26 rfl (lv_at hl 1 rfl) ?_
    refine va_iast hx hb hK hP hD hS 1 1 rfl rfl (zin (e := (78 + (2 * (gz Af 4)))) (n := 5340) ⟨by omega, by omega⟩ (bl rfl)) dX12_orders_27 (fun H locs hP hD hS => ?_)
    obtain ⟨f_6, hf_6⟩ : ∃ gg9, gg9 = upd Af (iZ (78 + (2 * (gz Af 4)))).toNatClampNeg (iZ x) := ⟨_, rfl⟩
    rw [← hf_6] at hP hD
    refine lv_aload_n hx hb dX12_orders_28 rfl (lv_at hl 0 rfl) ?_
    refine va_get (D := D) (ci := 12) (v := .ref Ma) (C := RX12) (T := TX12) (N := 36) hx hb hts iX12 hown hK hP 0 rfl rfl 0 (bl rfl) (hts _ qf_X12_7) (fun _ h => h) f0 dX12_orders_29 ?_
    refine lv_aload_n hx hb dX12_orders_32 rfl (lv_at hl 0 rfl) ?_
    refine va_get (D := D) (ci := 12) (v := .ref Ma) (C := RX12) (T := TX12) (N := 36) hx hb hts iX12 hown hK hP 0 rfl rfl 0 (bl rfl) (hts _ qf_X12_7) (fun _ h => h) f0 dX12_orders_33 ?_
    refine lv_iconst (v := iZ 4) hx hb dX12_orders_36 rfl ?_
    refine va_iald hx hb hK hP 1 1 rfl rfl (zin (e := 4) (n := 5340) ⟨by omega, by omega⟩ (bl rfl)) dX12_orders_37 ?_
    refine lv_topi (fun x_7 ex_7 => ?_)
    obtain rfl : x_7 = iZ (gz f_6 4) := ex_7.trans (gz_eq ⟨by omega, by omega⟩)
    have h_8 := gz_rg f_6 4
    have ch_9 := gz_upc (j := 4) hf_6 ⟨by omega, by omega⟩ ⟨by omega, by omega⟩ (by omega)
    refine CRS (As := [.int (iZ (gz f_6 4))]) (rest := [.ref Ma]) hx hb hml hown hts hKK (hP.sub (ws' := []) [] rfl) (m_givenRow l D k (gz f_6 4)) ci_X12_givenRow qm_X12_315 ⟨Nat.le_of_ble_eq_true rfl, Nat.le_of_ble_eq_true rfl⟩ ⟨Nat.le_of_ble_eq_true rfl, Nat.le_of_ble_eq_true rfl⟩ rfl hl.1 rfl (Nat.le_of_ble_eq_true rfl) dX12_orders_38 ?_
    refine lv_iconst (v := iZ 1) hx hb dX12_orders_41 rfl ?_
    refine lv_iadd hx hb dX12_orders_42 ?_
    refine lv_topi (fun x_10 ex_10 => ?_)
    obtain rfl : x_10 = iZ ((78 + (2 * (gz f_6 4))) + 1) := ex_10.trans (iZ_add (78 + (2 * (gz f_6 4))) 1)
    refine lv_aload_n hx hb dX12_orders_43 rfl (lv_at hl 0 rfl) ?_
    refine va_get (D := D) (ci := 12) (v := .ref Ma) (C := RX12) (T := TX12) (N := 36) hx hb hts iX12 hown hK hP 0 rfl rfl 0 (bl rfl) (hts _ qf_X12_7) (fun _ h => h) f0 dX12_orders_44 ?_
    refine lv_iconst (v := iZ 3) hx hb dX12_orders_47 rfl ?_
    refine va_iald hx hb hK hP 1 1 rfl rfl (zin (e := 3) (n := 5340) ⟨by omega, by omega⟩ (bl rfl)) dX12_orders_48 ?_
    refine lv_topi (fun x_11 ex_11 => ?_)
    obtain rfl : x_11 = iZ (gz f_6 3) := ex_11.trans (gz_eq ⟨by omega, by omega⟩)
    have h_12 := gz_rg f_6 3
    have ch_13 := gz_upc (j := 3) hf_6 ⟨by omega, by omega⟩ ⟨by omega, by omega⟩ (by omega)
    refine va_iast hx hb hK hP hD hS 1 1 rfl rfl (zin (e := ((78 + (2 * (gz f_6 4))) + 1)) (n := 5340) ⟨by omega, by omega⟩ (bl rfl)) dX12_orders_49 (fun H locs hP hD hS => ?_)
    obtain ⟨f_14, hf_14⟩ : ∃ gg9, gg9 = upd f_6 (iZ ((78 + (2 * (gz f_6 4))) + 1)).toNatClampNeg (iZ (gz f_6 3)) := ⟨_, rfl⟩
    rw [← hf_14] at hP hD
    refine lv_aload_n hx hb dX12_orders_50 rfl (lv_at hl 0 rfl) ?_
    refine va_get (D := D) (ci := 12) (v := .ref Ma) (C := RX12) (T := TX12) (N := 36) hx hb hts iX12 hown hK hP 0 rfl rfl 0 (bl rfl) (hts _ qf_X12_7) (fun _ h => h) f0 dX12_orders_51 ?_
    refine lv_iconst (v := iZ 4) hx hb dX12_orders_54 rfl ?_
    refine lv_dup2_11 hx hb dX12_orders_55 rfl rfl ?_
    refine va_iald hx hb hK hP 1 1 rfl rfl (zin (e := 4) (n := 5340) ⟨by omega, by omega⟩ (bl rfl)) dX12_orders_56 ?_
    refine lv_topi (fun x_15 ex_15 => ?_)
    obtain rfl : x_15 = iZ (gz f_14 4) := ex_15.trans (gz_eq ⟨by omega, by omega⟩)
    have h_16 := gz_rg f_14 4
    have ch_17 := gz_upc (j := 4) hf_6 ⟨by omega, by omega⟩ ⟨by omega, by omega⟩ (by omega)
    have ch_18 := gz_upc (j := 4) hf_14 ⟨by omega, by omega⟩ ⟨by omega, by omega⟩ (by omega)
    refine lv_iconst (v := iZ 1) hx hb dX12_orders_57 rfl ?_
    refine lv_iadd hx hb dX12_orders_58 ?_
    refine lv_topi (fun x_19 ex_19 => ?_)
    obtain rfl : x_19 = iZ ((gz f_14 4) + 1) := ex_19.trans (iZ_add (gz f_14 4) 1)
    refine va_iast hx hb hK hP hD hS 1 1 rfl rfl (zin (e := 4) (n := 5340) ⟨by omega, by omega⟩ (bl rfl)) dX12_orders_59 (fun H locs hP hD hS => ?_)
    obtain ⟨f_20, hf_20⟩ : ∃ gg9, gg9 = upd f_14 (iZ 4).toNatClampNeg (iZ ((gz f_14 4) + 1)) := ⟨_, rfl⟩
    rw [← hf_20] at hP hD
    refine lv_iconst (v := iZ 1) hx hb dX12_orders_60 rfl ?_
    exact EWz hx hb hr hlocks hS (1, 0, f_20, ()) rfl rfl ⟨(show M0 f_20 from (M0.ord hM hf_6 hf_14 hf_20 (by omega) (by omega) ⟨by omega, by omega⟩ ⟨by omega, by omega⟩ (by omega) (by omega))), (show FR f_20 Af from (FR.tr (FR.up hf_20 (Or.inr (Or.inl rfl)) ⟨by omega, by omega⟩) (FR.tr (FR.up hf_14 (Or.inr (Or.inr ⟨by omega, by omega⟩)) ⟨by omega, by omega⟩) (FR.up hf_6 (Or.inr (Or.inr ⟨by omega, by omega⟩)) ⟨by omega, by omega⟩)))), (show ((1 : Int) = 0 ∧ ¬ gz Af 4 < 20 ∧ f_20 = Af) ∨ ((1 : Int) = 1 ∧ gz Af 4 < 20 ∧ rL f_20 = odF x (rL Af)) from (Or.inr ⟨rfl, by omega, rL_od hf_6 hf_14 hf_20 (by omega) (by omega) (by omega) (by omega) ⟨by omega, by omega⟩ ⟨by omega, by omega⟩ ⟨by omega, by omega⟩⟩))⟩ (hP.sub [0, 1] rfl) (hD.sub [0, 1] rfl rfl) dX12_orders_61
  ·
    have c_3 := (zeq (x := iZ (gz Af 4)) (y := iZ 20) rfl rfl (gz_rg Af 4) wn_20).mp c_3
    refine lv_iconst (v := iZ 0) hx hb dX12_orders_11 rfl ?_
    exact EWz hx hb hr hlocks hS (0, 0, Af, ()) rfl rfl ⟨(show M0 Af from hM), (show FR Af Af from (FR.rf Af)), (show ((0 : Int) = 0 ∧ ¬ gz Af 4 < 20 ∧ Af = Af) ∨ ((0 : Int) = 1 ∧ gz Af 4 < 20 ∧ rL Af = odF x (rL Af)) from (Or.inl ⟨rfl, by omega, rfl⟩))⟩ (hP.sub [0, 1] rfl) (hD.sub [0, 1] rfl rfl) dX12_orders_12
set_option maxHeartbeats 4000000 in
set_option maxRecDepth 100000 in
theorem r_draw (l : Launch) (D : va_G) (k : Nat → ClassId) (hm : Nat) (Ma : Nat) (Mn : Nat) (Ms : Nat) (My : Nat) (Mt : Nat) (Mp : Nat) (Mx : Nat) (Mo : Nat) (Mk : Nat) (Ml : Nat) (Mb : Nat) (Mh : Nat) (Mc : Nat) (Mz : Nat) (Mr : Nat) (Mq : Nat) (Mst : Int) (Mtd : Int) (Msz : Int) (Mtk : Int) (Mfr : Int) (Men : Int) (Mva : Int) (Mfk : Int) (Mfp : Int) (Mfs : Int) (Mse : Int) (Mlt : Int) (Mdp : Int) (Mct : Int) (Mdr : Int) (Mrs : Int) (Mit : Int) (Mmk : Int) (Mtp : Int64) (Mbt : Int64) (hdr : 0 ≤ Mdr ∧ Mdr ≤ 65535) : WD (σ := ((Int × Int) × (Int64) × (Unit) × (Unit))) l yX12_draw cX12_draw 1 (some .int) 0 0 0 D k [.ref hm] [(hm, .inr (12, [.ref Ma, .ref Mn, .int (iZ Mst), .long Mtp, .long Mbt, .ref Ms, .ref My, .ref Mt, .ref Mp, .ref Mx, .int (iZ Mtd), .int (iZ Msz), .int (iZ Mtk), .int (iZ Mfr), .int (iZ Men), .int (iZ Mva), .int (iZ Mfk), .int (iZ Mfp), .int (iZ Mfs), .int (iZ Mse), .int (iZ Mlt), .ref Mo, .int (iZ Mdp), .int (iZ Mct), .ref Mk, .ref Ml, .ref Mb, .ref Mh, .ref Mc, .int (iZ Mdr), .int (iZ Mrs), .ref Mz, .ref Mr, .ref Mq, .int (iZ Mit), .int (iZ Mmk)]))] (fun u => some (.int (iZ u.1.1))) (fun u => (u.1.2 = (Mdr * 2893 + 11093) % 65536) ∧ ((0 ≤ u.1.2 ∧ u.1.2 ≤ 65535) ∧ u.1.1 = u.1.2 / 8 % 16)) (fun u => [(hm, .inr (12, [.ref Ma, .ref Mn, .int (iZ Mst), .long Mtp, .long Mbt, .ref Ms, .ref My, .ref Mt, .ref Mp, .ref Mx, .int (iZ Mtd), .int (iZ Msz), .int (iZ Mtk), .int (iZ Mfr), .int (iZ Men), .int (iZ Mva), .int (iZ Mfk), .int (iZ Mfp), .int (iZ Mfs), .int (iZ Mse), .int (iZ Mlt), .ref Mo, .int (iZ Mdp), .int (iZ Mct), .ref Mk, .ref Ml, .ref Mb, .ref Mh, .ref Mc, .int (iZ u.1.2), .int (iZ Mrs), .ref Mz, .ref Mr, .ref Mq, .int (iZ Mit), .int (iZ Mmk)]))]) := by
  refine MW (by decide) (Nat.le_of_ble_eq_true rfl) (fun p e s m below meth c ls A hx hb hml hr hlocks hin hts hown hKK hP hD hS hA hl => ?_)
  have hK := hKK.1
  have hl : lv_has ls 1 [(0, .ref hm)] := hl
  refine lv_aload_n hx hb dX12_draw_0 rfl (lv_at hl 0 rfl) ?_
  refine lv_aload_n hx hb dX12_draw_1 rfl (lv_at hl 0 rfl) ?_
  refine va_get (D := D) (ci := 12) (v := .int (iZ Mdr)) (C := RX12) (T := TX12) (N := 36) hx hb hts iX12 hown hK hP 0 rfl rfl 29 (bl rfl) (hts _ qf_X12_380) (fun _ h => h) rfl dX12_draw_2 ?_
  refine lv_sipush (v := iZ 2893) hx hb dX12_draw_5 sip_2893 ?_
  refine lv_imul hx hb dX12_draw_8 ?_
  refine lv_topi (fun x_1 ex_1 => ?_)
  obtain rfl : x_1 = iZ (Mdr * 2893) := ex_1.trans (iZ_mul Mdr 2893)
  refine lv_sipush (v := iZ 11093) hx hb dX12_draw_9 sip_11093 ?_
  refine lv_iadd hx hb dX12_draw_12 ?_
  refine lv_topi (fun x_2 ex_2 => ?_)
  obtain rfl : x_2 = iZ ((Mdr * 2893) + 11093) := ex_2.trans (iZ_add (Mdr * 2893) 11093)
  refine lv_ldcw (own := RX12) (v := 65536) hx hb hown (hts _ qk_X12_383) dX12_draw_13 ?_
  refine W.eq (g2 := F0 m 16 ls [.int (iZ 65536), .int (iZ ((Mdr * 2893) + 11093)), .ref hm]) rfl ?_
  refine lv_irem hx hb dX12_draw_16 (by rw [zne rfl ⟨by omega, by omega⟩]; omega) ?_
  refine lv_topi (fun x_3 ex_3 => ?_)
  obtain rfl : x_3 = iZ (((Mdr * 2893) + 11093) % 65536) := ex_3.trans (iZ_rem (a := ((Mdr * 2893) + 11093)) (b := 65536) (by omega) (by omega) (by omega) (by omega))
  refine va_put (D := D) (ci := 12) (v := .int (iZ (((Mdr * 2893) + 11093) % 65536))) (ty := .int) (C := RX12) (T := TX12) (N := 36) hx hb hts iX12 tyX12 tyX12_ok nmX12 hown hK hP hD hS 0 rfl rfl 29 (bl rfl) (hts _ qf_X12_380) (fun _ h => h) rfl (by decide +kernel) rfl rfl (Nat.le_of_ble_eq_true rfl) dX12_draw_17 (fun H locs hP hD hS => ?_)
  refine lv_aload_n hx hb dX12_draw_20 rfl (lv_at hl 0 rfl) ?_
  refine va_get (D := D) (ci := 12) (v := .int (iZ (((Mdr * 2893) + 11093) % 65536))) (C := RX12) (T := TX12) (N := 36) hx hb hts iX12 hown hK hP 0 rfl rfl 29 (bl rfl) (hts _ qf_X12_380) (fun _ h => h) rfl dX12_draw_21 ?_
  refine lv_bipush (v := iZ 8) hx hb dX12_draw_24 bip_8 ?_
  refine lv_idiv hx hb dX12_draw_26 (by rw [zne rfl ⟨by omega, by omega⟩]; omega) ?_
  have hd_26 := zdiv_b (a := (((Mdr * 2893) + 11093) % 65536)) (b := 8) (by omega) (by omega)
  refine lv_topi (fun x_4 ex_4 => ?_)
  obtain rfl : x_4 = iZ ((((Mdr * 2893) + 11093) % 65536) / 8) := ex_4.trans (iZ_div (a := (((Mdr * 2893) + 11093) % 65536)) (b := 8) (by omega) (by omega) (by omega) (by omega))
  refine lv_bipush (v := iZ 16) hx hb dX12_draw_27 bip_16 ?_
  refine lv_irem hx hb dX12_draw_29 (by rw [zne rfl ⟨by omega, by omega⟩]; omega) ?_
  refine lv_topi (fun x_5 ex_5 => ?_)
  obtain rfl : x_5 = iZ (((((Mdr * 2893) + 11093) % 65536) / 8) % 16) := ex_5.trans (iZ_rem (a := ((((Mdr * 2893) + 11093) % 65536) / 8)) (b := 16) (by omega) (by omega) (by omega) (by omega))
  exact EWi hx hb hr hlocks hS (((((((Mdr * 2893) + 11093) % 65536) / 8) % 16), (((Mdr * 2893) + 11093) % 65536)), 0, (), ()) rfl ⟨(show (((Mdr * 2893) + 11093) % 65536) = (Mdr * 2893 + 11093) % 65536 from (by omega)), (show (0 ≤ (((Mdr * 2893) + 11093) % 65536) ∧ (((Mdr * 2893) + 11093) % 65536) ≤ 65535) ∧ (((((Mdr * 2893) + 11093) % 65536) / 8) % 16) = (((Mdr * 2893) + 11093) % 65536) / 8 % 16 from (by omega))⟩ (hP.sub [0] rfl) (hD.sub [0] rfl rfl) dX12_draw_30
end
