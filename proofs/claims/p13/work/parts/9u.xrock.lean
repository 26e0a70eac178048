section
theorem xFF_r {T : Int → Int} {w what lo hi n p q q2 v : Int} {F : Int → Int} (h1 : xTw T w p = .inr q) (h2 : xTn T lo hi q = .inr (q2, v)) : xFF T w what lo hi n p F = .inr (q2, xUp F ((n * 6) + what) v) := by
  unfold xFF
  rw [xBn_r h1, xBn_r h2]
theorem xFF_a {T : Int → Int} {w what lo hi n p : Int} {e : Int × Int} {F : Int → Int} (h1 : xTw T w p = .inl e) : xFF T w what lo hi n p F = .inl e := by
  unfold xFF
  rw [xBn_l h1]
theorem xFF_b {T : Int → Int} {w what lo hi n p q : Int} {e : Int × Int} {F : Int → Int} (h1 : xTw T w p = .inr q) (h2 : xTn T lo hi q = .inl e) : xFF T w what lo hi n p F = .inl e := by
  unfold xFF
  rw [xBn_r h1, xBn_l h2]
theorem xOF_0 {T : Int → Int} {w what lo hi n p : Int} {F : Int → Int} (h : ¬ xKw T p = w) : xOF T w what lo hi n p F = .inr (p, F) := by
  unfold xOF
  rw [if_neg h]
theorem xOF_1 {T : Int → Int} {w what lo hi n p : Int} {F : Int → Int} {r : (Int × Int) ⊕ (Int × (Int → Int))} (h : xKw T p = w) (h1 : xFF T w what lo hi n p F = r) : xOF T w what lo hi n p F = r := by
  unfold xOF
  rw [if_pos h, h1]
theorem xPr_0 {T : Int → Int} {n p : Int} {F : Int → Int} (h : ¬ xKw T p = 5) : xPr T n p F = .inr (p, F) := by
  unfold xPr
  rw [if_neg h]
theorem xPr_1 {T : Int → Int} {n p q : Int} {F G : Int → Int} {r : (Int × Int) ⊕ (Int × (Int → Int))} (h : xKw T p = 5) (h1 : xFF T 5 4 0 99 n p F = .inr (q, G)) (h2 : xOF T 6 5 0 20 n q G = r) : xPr T n p F = r := by
  unfold xPr
  rw [if_pos h, xBn_r h1]
  exact h2
theorem xPr_l {T : Int → Int} {n p : Int} {F : Int → Int} {e : Int × Int} (h : xKw T p = 5) (h1 : xFF T 5 4 0 99 n p F = .inl e) : xPr T n p F = .inl e := by
  unfold xPr
  rw [if_pos h, xBn_l h1]
theorem xR3_r {T : Int → Int} {n we p q : Int} {F G : Int → Int} (h : xOF T 4 3 0 9 n p F = .inr (q, G)) : xR3 T n we p F = xR4 T n we q G := by
  unfold xR3
  rw [xBn_r h]
theorem xR3_l {T : Int → Int} {n we p : Int} {F : Int → Int} {e : Int × Int} (h : xOF T 4 3 0 9 n p F = .inl e) : xR3 T n we p F = .inl e := by
  unfold xR3
  rw [xBn_l h]
theorem xR4_r {T : Int → Int} {n we p q : Int} {F G : Int → Int} (h : xPr T n p F = .inr (q, G)) : xR4 T n we p F = xR5 T n we q G := by
  unfold xR4
  rw [xBn_r h]
theorem xR4_l {T : Int → Int} {n we p : Int} {F : Int → Int} {e : Int × Int} (h : xPr T n p F = .inl e) : xR4 T n we p F = .inl e := by
  unfold xR4
  rw [xBn_l h]
theorem xR5_r {T : Int → Int} {n we p q w r : Int} {F : Int → Int} (h : xWe T n we p = (q, w)) (h2 : xTs T 59 q = .inr r) : xR5 T n we p F = .inr (r, w, F) := by
  rw [xR5_w h, xBn_r h2]
theorem xR5_l {T : Int → Int} {n we p q w : Int} {F : Int → Int} {e : Int × Int} (h : xWe T n we p = (q, w)) (h2 : xTs T 59 q = .inl e) : xR5 T n we p F = .inl e := by
  rw [xR5_w h, xBn_l h2]
theorem xWe_1 {T : Int → Int} {n we p w : Int} (h : xKw T p = 7) (hw : w = xOr we n) : xWe T n we p = (xEn T p, w) := by
  unfold xWe
  rw [if_pos h, hw]
theorem xWe_0 {T : Int → Int} {n we p : Int} (h : ¬ xKw T p = 7) : xWe T n we p = (p, we) := by
  unfold xWe
  rw [if_neg h]
theorem xRock_3 {T : Int → Int} {N F F1 F2 F3 : Int → Int} {n we p q q1 q2 q3 : Int} (hn : ¬ 6 ≤ n) (h0 : xNn T N n (xEn T p) = .inr q) (h1 : xFF T 1 0 0 20 n q F = .inr (q1, F1)) (h2 : xFF T 2 1 1 99 n q1 F1 = .inr (q2, F2)) (h3 : xFF T 3 2 0 11 n q2 F2 = .inr (q3, F3)) : xRock T N n we F p = xR3 T n we q3 F3 := by
  unfold xRock
  rw [if_neg hn, xBn_r h0, xBn_r h1, xBn_r h2, xBn_r h3]
theorem xRock_l0 {T : Int → Int} {N F : Int → Int} {n we p : Int} {e : Int × Int} (hn : ¬ 6 ≤ n) (h0 : xNn T N n (xEn T p) = .inl e) : xRock T N n we F p = .inl e := by
  unfold xRock
  rw [if_neg hn, xBn_l h0]
theorem xRock_l1 {T : Int → Int} {N F : Int → Int} {n we p q : Int} {e : Int × Int} (hn : ¬ 6 ≤ n) (h0 : xNn T N n (xEn T p) = .inr q) (h1 : xFF T 1 0 0 20 n q F = .inl e) : xRock T N n we F p = .inl e := by
  unfold xRock
  rw [if_neg hn, xBn_r h0, xBn_l h1]
theorem xRock_l2 {T : Int → Int} {N F F1 : Int → Int} {n we p q q1 : Int} {e : Int × Int} (hn : ¬ 6 ≤ n) (h0 : xNn T N n (xEn T p) = .inr q) (h1 : xFF T 1 0 0 20 n q F = .inr (q1, F1)) (h2 : xFF T 2 1 1 99 n q1 F1 = .inl e) : xRock T N n we F p = .inl e := by
  unfold xRock
  rw [if_neg hn, xBn_r h0, xBn_r h1, xBn_l h2]
theorem xRock_l3 {T : Int → Int} {N F F1 F2 : Int → Int} {n we p q q1 q2 : Int} {e : Int × Int} (hn : ¬ 6 ≤ n) (h0 : xNn T N n (xEn T p) = .inr q) (h1 : xFF T 1 0 0 20 n q F = .inr (q1, F1)) (h2 : xFF T 2 1 1 99 n q1 F1 = .inr (q2, F2)) (h3 : xFF T 3 2 0 11 n q2 F2 = .inl e) : xRock T N n we F p = .inl e := by
  unfold xRock
  rw [if_neg hn, xBn_r h0, xBn_r h1, xBn_r h2, xBn_l h3]
theorem xRock_6 {T : Int → Int} {N F : Int → Int} {n we p a b : Int} (hn : 6 ≤ n) (h : a = xFl T p 6 ∧ b = xPl T p) : xRock T N n we F p = .inl (a, b) := by
  unfold xRock xEr
  rw [if_pos hn, h.1, h.2]
theorem xIce_6 {T : Int → Int} {N G : Int → Int} {n ni p p1 p2 p3 p4 p5 p6 a b c d : Int} (hn : ¬ 8 ≤ ni) (h0 : xTr T N n (-1) (xEn T p) = .inr (p1, a)) (h1 : xTr T N n a p1 = .inr (p2, b)) (h2 : xTw T 9 p2 = .inr p3) (h3 : xTn T 0 400 p3 = .inr (p4, c)) (h4 : xTw T 10 p4 = .inr p5) (h5 : xTn T c 400 p5 = .inr (p6, d)) : xIce T N n ni G p = (xBn (xTs T 59 p6) fun q => .inr (q, xUp (xUp (xUp (xUp G ((ni * 4) + 0) a) ((ni * 4) + 1) b) ((ni * 4) + 2) c) ((ni * 4) + 3) d)) := by
  unfold xIce
  rw [if_neg hn, xBn_r h0, xBn_r h1, xBn_r h2, xBn_r h3, xBn_r h4, xBn_r h5]
theorem xIce_l0 {T : Int → Int} {N G : Int → Int} {n ni p : Int} {e : Int × Int} (hn : ¬ 8 ≤ ni) (h0 : xTr T N n (-1) (xEn T p) = .inl e) : xIce T N n ni G p = .inl e := by
  unfold xIce
  rw [if_neg hn, xBn_l h0]
theorem xIce_l1 {T : Int → Int} {N G : Int → Int} {n ni p p1 a : Int} {e : Int × Int} (hn : ¬ 8 ≤ ni) (h0 : xTr T N n (-1) (xEn T p) = .inr (p1, a)) (h1 : xTr T N n a p1 = .inl e) : xIce T N n ni G p = .inl e := by
  unfold xIce
  rw [if_neg hn, xBn_r h0, xBn_l h1]
theorem xIce_l2 {T : Int → Int} {N G : Int → Int} {n ni p p1 p2 a b : Int} {e : Int × Int} (hn : ¬ 8 ≤ ni) (h0 : xTr T N n (-1) (xEn T p) = .inr (p1, a)) (h1 : xTr T N n a p1 = .inr (p2, b)) (h2 : xTw T 9 p2 = .inl e) : xIce T N n ni G p = .inl e := by
  unfold xIce
  rw [if_neg hn, xBn_r h0, xBn_r h1, xBn_l h2]
theorem xIce_l3 {T : Int → Int} {N G : Int → Int} {n ni p p1 p2 p3 a b : Int} {e : Int × Int} (hn : ¬ 8 ≤ ni) (h0 : xTr T N n (-1) (xEn T p) = .inr (p1, a)) (h1 : xTr T N n a p1 = .inr (p2, b)) (h2 : xTw T 9 p2 = .inr p3) (h3 : xTn T 0 400 p3 = .inl e) : xIce T N n ni G p = .inl e := by
  unfold xIce
  rw [if_neg hn, xBn_r h0, xBn_r h1, xBn_r h2, xBn_l h3]
theorem xIce_l4 {T : Int → Int} {N G : Int → Int} {n ni p p1 p2 p3 p4 a b c : Int} {e : Int × Int} (hn : ¬ 8 ≤ ni) (h0 : xTr T N n (-1) (xEn T p) = .inr (p1, a)) (h1 : xTr T N n a p1 = .inr (p2, b)) (h2 : xTw T 9 p2 = .inr p3) (h3 : xTn T 0 400 p3 = .inr (p4, c)) (h4 : xTw T 10 p4 = .inl e) : xIce T N n ni G p = .inl e := by
  unfold xIce
  rw [if_neg hn, xBn_r h0, xBn_r h1, xBn_r h2, xBn_r h3, xBn_l h4]
theorem xIce_l5 {T : Int → Int} {N G : Int → Int} {n ni p p1 p2 p3 p4 p5 a b c : Int} {e : Int × Int} (hn : ¬ 8 ≤ ni) (h0 : xTr T N n (-1) (xEn T p) = .inr (p1, a)) (h1 : xTr T N n a p1 = .inr (p2, b)) (h2 : xTw T 9 p2 = .inr p3) (h3 : xTn T 0 400 p3 = .inr (p4, c)) (h4 : xTw T 10 p4 = .inr p5) (h5 : xTn T c 400 p5 = .inl e) : xIce T N n ni G p = .inl e := by
  unfold xIce
  rw [if_neg hn, xBn_r h0, xBn_r h1, xBn_r h2, xBn_r h3, xBn_r h4, xBn_l h5]
theorem xIce_8 {T : Int → Int} {N G : Int → Int} {n ni p a b : Int} (hn : 8 ≤ ni) (h : a = xFl T p 6 ∧ b = xPl T p) : xIce T N n ni G p = .inl (a, b) := by
  unfold xIce xEr
  rw [if_pos hn, h.1, h.2]
theorem xLaw_2 {T : Int → Int} {lt p k : Int} (hl : ¬ lt = 1) (hk : xLo (xKw T (xEn T p)) = k) (h1 : ¬ k = -1) : xLaw T lt p = (xBn (xTs T 59 (xEn T (xEn T p))) fun q => .inr (q, k)) := by
  unfold xLaw
  rw [if_neg hl, if_neg (by rw [hk]; exact h1), hk]
theorem xPart_r {T : Int → Int} {N F G : Int → Int} {n ni lw we lt p : Int} {q w n2 : Int} {F2 : Int → Int} (hk : xKw T p = 0) (h : xRock T N n we F p = .inr (q, w, F2)) (hn : n2 = n + 1) : xPart T p (n, ni, lw, we, lt, F, G, N) = .inr (q, (n2, ni, lw, w, lt, F2, G, xUp N n (xNm T (xEn T p)))) := by
  unfold xPart
  dsimp only
  rw [if_pos hk, xBn_r h, hn]
theorem xPart_rl {T : Int → Int} {N F G : Int → Int} {n ni lw we lt p : Int} {e : Int × Int} (hk : xKw T p = 0) (h : xRock T N n we F p = .inl e) : xPart T p (n, ni, lw, we, lt, F, G, N) = .inl e := by
  unfold xPart
  dsimp only
  rw [if_pos hk, xBn_l h]
theorem xPart_i {T : Int → Int} {N F G : Int → Int} {n ni lw we lt p : Int} {q n2 : Int} {G2 : Int → Int} (hk : xKw T p = 8) (h : xIce T N n ni G p = .inr (q, G2)) (hn : n2 = ni + 1) : xPart T p (n, ni, lw, we, lt, F, G, N) = .inr (q, (n, n2, lw, we, lt, F, G2, N)) := by
  unfold xPart
  dsimp only
  rw [if_neg (by omega), if_pos hk, xBn_r h, hn]
theorem xPart_il {T : Int → Int} {N F G : Int → Int} {n ni lw we lt p : Int} {e : Int × Int} (hk : xKw T p = 8) (h : xIce T N n ni G p = .inl e) : xPart T p (n, ni, lw, we, lt, F, G, N) = .inl e := by
  unfold xPart
  dsimp only
  rw [if_neg (by omega), if_pos hk, xBn_l h]
theorem xPart_w {T : Int → Int} {N F G : Int → Int} {n ni lw we lt p : Int} {q w t2 : Int} (hk : xKw T p = 11) (h : xLaw T lt p = .inr (q, w)) (ht : t2 = 1) : xPart T p (n, ni, lw, we, lt, F, G, N) = .inr (q, (n, ni, w, we, t2, F, G, N)) := by
  unfold xPart
  dsimp only
  rw [if_neg (by omega), if_neg (by omega), if_pos hk, xBn_r h, ht]
theorem xPart_wl {T : Int → Int} {N F G : Int → Int} {n ni lw we lt p : Int} {e : Int × Int} (hk : xKw T p = 11) (h : xLaw T lt p = .inl e) : xPart T p (n, ni, lw, we, lt, F, G, N) = .inl e := by
  unfold xPart
  dsimp only
  rw [if_neg (by omega), if_neg (by omega), if_pos hk, xBn_l h]
theorem xPart_0 {T : Int → Int} {N F G : Int → Int} {n ni lw we lt p : Int} {a b : Int} (h0 : ¬ xKw T p = 0) (h8 : ¬ xKw T p = 8) (h11 : ¬ xKw T p = 11) (h : a = xFl T p 2 ∧ b = xPl T p) : xPart T p (n, ni, lw, we, lt, F, G, N) = .inl (a, b) := by
  unfold xPart
  dsimp only
  rw [if_neg h0, if_neg h8, if_neg h11]
  unfold xEr
  rw [h.1, h.2]
end

section
set_option maxHeartbeats 4000000 in
set_option maxRecDepth 100000 in
theorem x_readRock (l : Launch) (D : va_G) (k : Nat → ClassId) (hq : Nat) (hr1 : Nat) (tx : Nat) (kw : Nat) (lt : Int) (tp : Int) (ln : Int) (pl : Int) (en : Int) (ki : Int) (va : Int) (ke : Int) (fk : Int) (fp : Int) (nm : Int64) (bf : Nat → Int32) (kwf : Nat → Int64) (hs : Nat) (hN : Nat) (hf : Nat) (hg : Nat) (n : Int) (ni : Int) (lw : Int) (we : Int) (nf : Nat → Int64) (f : Nat → Int32) (g : Nat → Int32) (cu : Int) (F : Int → Int) (N : Int → Int) (hI1 : (0 ≤ tp ∧ tp ≤ 900) ∧ (0 ≤ ln ∧ ln ≤ 900) ∧ (0 ≤ pl ∧ pl ≤ en) ∧ (en ≤ ln) ∧ (0 ≤ ki ∧ ki ≤ 4) ∧ (-2147483648 ≤ va ∧ va < 2147483648) ∧ (-1 ≤ ke ∧ ke ≤ 24)) (hbf : rgI bf (-128) 127 900) (hkw : ∀ j : Nat, j < 25 → kwf j = lZ (kwC j)) (hrx : RDX (tX bf ln) cu pl en ki va ke nm) (hn : 0 ≤ n ∧ n ≤ 6) (hz : SKZ f n) (hwe : -2147483648 ≤ we ∧ we < 2147483648) (hns : xNs nf N n) (hF : xRw f F 36) : WD (σ := ((Int × Int × Int × Int × Int × Int × Int × Int × Int × Int) × (Int64 × Int64) × ((Nat → Int32)) × ((Nat → Int64)))) l yX6_readRock cX6_readRock 3 (some .boolean) 4 0 0 D k [.ref hq] [(hq, .inr (6, [.ref hr1, .ref hs, .int (iZ lt)])), (hr1, .inr (4, [.ref tx, .ref kw, .int (iZ tp), .int (iZ ln), .int (iZ pl), .int (iZ en), .int (iZ ki), .int (iZ va), .int (iZ ke), .long nm, .int (iZ fk), .int (iZ fp)])), (tx, .inl (k 0, 900, .inl bf)), (kw, .inl (k 2, 25, .inr (.inl kwf))), (hs, .inr (5, [.ref hN, .ref hf, .ref hg, .int (iZ n), .int (iZ ni), .int (iZ lw), .int (iZ we)])), (hN, .inl (k 2, 6, .inr (.inl nf))), (hf, .inl (k 1, 36, .inl f)), (hg, .inl (k 1, 32, .inl g))] (fun u => some (.int (iZ u.1.1))) (fun u => ((0 ≤ tp ∧ tp ≤ 900) ∧ (0 ≤ ln ∧ ln ≤ 900) ∧ (0 ≤ u.1.2.1 ∧ u.1.2.1 ≤ u.1.2.2.1) ∧ (u.1.2.2.1 ≤ ln) ∧ (0 ≤ u.1.2.2.2.1 ∧ u.1.2.2.2.1 ≤ 4) ∧ (-2147483648 ≤ u.1.2.2.2.2.1 ∧ u.1.2.2.2.2.1 < 2147483648) ∧ (-1 ≤ u.1.2.2.2.2.2.1 ∧ u.1.2.2.2.2.2.1 ≤ 24)) ∧ (-2147483648 ≤ u.1.2.2.2.2.2.2.2.2.2 ∧ u.1.2.2.2.2.2.2.2.2.2 < 2147483648) ∧ (((u.1.1 : Int) = 1 ∧ ∃ (q9 : Int) (F9 : Int → Int), xRock (tX bf ln) N n we F cu = .inr (q9, u.1.2.2.2.2.2.2.2.2.2, F9) ∧ cu < q9 ∧ RDX (tX bf ln) q9 u.1.2.1 u.1.2.2.1 u.1.2.2.2.1 u.1.2.2.2.2.1 u.1.2.2.2.2.2.1 u.2.1.2 ∧ xRw u.2.2.1 F9 36 ∧ xNs u.2.2.2 (xUp N n (xNm (tX bf ln) (xEn (tX bf ln) cu))) u.1.2.2.2.2.2.2.2.2.1 ∧ u.1.2.2.2.2.2.2.2.2.1 = n + 1 ∧ (0 ≤ u.1.2.2.2.2.2.2.2.2.1 ∧ u.1.2.2.2.2.2.2.2.2.1 ≤ 6) ∧ SKZ u.2.2.1 u.1.2.2.2.2.2.2.2.2.1 ∧ u.1.2.2.2.2.2.2.1 = fk ∧ u.1.2.2.2.2.2.2.2.1 = fp) ∨ ((u.1.1 : Int) = 0 ∧ xRock (tX bf ln) N n we F cu = .inl (u.1.2.2.2.2.2.2.1, u.1.2.2.2.2.2.2.2.1)))) (fun u => [(hq, .inr (6, [.ref hr1, .ref hs, .int (iZ lt)])), (hr1, .inr (4, [.ref tx, .ref kw, .int (iZ tp), .int (iZ ln), .int (iZ u.1.2.1), .int (iZ u.1.2.2.1), .int (iZ u.1.2.2.2.1), .int (iZ u.1.2.2.2.2.1), .int (iZ u.1.2.2.2.2.2.1), .long u.2.1.2, .int (iZ u.1.2.2.2.2.2.2.1), .int (iZ u.1.2.2.2.2.2.2.2.1)])), (tx, .inl (k 0, 900, .inl bf)), (kw, .inl (k 2, 25, .inr (.inl kwf))), (hs, .inr (5, [.ref hN, .ref hf, .ref hg, .int (iZ u.1.2.2.2.2.2.2.2.2.1), .int (iZ ni), .int (iZ lw), .int (iZ u.1.2.2.2.2.2.2.2.2.2)])), (hN, .inl (k 2, 6, .inr (.inl u.2.2.2))), (hf, .inl (k 1, 36, .inl u.2.2.1)), (hg, .inl (k 1, 32, .inl g))]) := by
  refine MW (by decide) (Nat.le_of_ble_eq_true rfl) (fun p e s m below meth c ls A hx hb hml hr hlocks hin hts hown hKK hP hD hS hA hl => ?_)
  have hK := hKK.1
  have hl : lv_has ls 3 [(0, .ref hq)] := hl
  obtain ⟨⟨ar_1, br_1⟩, cr_1, dr_1, er_1, fr_1, gr_1, hr_1⟩ := id hrx
  have sk0 : 0 ≤ n ∧ n < 6 → SKR f n 0 := fun h => SKZ.skr hz h
  have HJ164 : ∀ (plj : Int) (enj : Int) (kij : Int) (vaj : Int) (kej : Int) (nmj : Int64) (fkj : Int) (fpj : Int) (nfj : Nat → Int64) (fj : Nat → Int32) (jp : Int) (jG : Int → Int) (H : Heap) (locs : List Loc) (ls : Array Slot), ((0 ≤ tp ∧ tp ≤ 900) ∧ (0 ≤ ln ∧ ln ≤ 900) ∧ (0 ≤ plj ∧ plj ≤ enj) ∧ (enj ≤ ln) ∧ (0 ≤ kij ∧ kij ≤ 4) ∧ (-2147483648 ≤ vaj ∧ vaj < 2147483648) ∧ (-1 ≤ kej ∧ kej ≤ 24)) → (RDX (tX bf ln) jp plj enj kij vaj kej nmj) → (cu < jp) → (xRw fj jG 36) → (xNs nfj (xUp N n (xNm (tX bf ln) (xEn (tX bf ln) cu))) (n + 1)) → (SKR fj n 1) → (fkj = fk ∧ fpj = fp) → (xRock (tX bf ln) N n we F cu = xR5 (tX bf ln) n we jp jG) → (0 ≤ n ∧ n < 6) → va_P D vwCl [(hq, .inr (6, [.ref hr1, .ref hs, .int (iZ lt)])), (hr1, .inr (4, [.ref tx, .ref kw, .int (iZ tp), .int (iZ ln), .int (iZ plj), .int (iZ enj), .int (iZ kij), .int (iZ vaj), .int (iZ kej), .long nmj, .int (iZ fkj), .int (iZ fpj)])), (tx, .inl (k 0, 900, .inl bf)), (kw, .inl (k 2, 25, .inr (.inl kwf))), (hs, .inr (5, [.ref hN, .ref hf, .ref hg, .int (iZ n), .int (iZ ni), .int (iZ lw), .int (iZ we)])), (hN, .inl (k 2, 6, .inr (.inl nfj))), (hf, .inl (k 1, 36, .inl fj)), (hg, .inl (k 1, 32, .inl g))] H → va_D A [(hq, .inr (6, [.ref hr1, .ref hs, .int (iZ lt)])), (hr1, .inr (4, [.ref tx, .ref kw, .int (iZ tp), .int (iZ ln), .int (iZ plj), .int (iZ enj), .int (iZ kij), .int (iZ vaj), .int (iZ kej), .long nmj, .int (iZ fkj), .int (iZ fpj)])), (tx, .inl (k 0, 900, .inl bf)), (kw, .inl (k 2, 25, .inr (.inl kwf))), (hs, .inr (5, [.ref hN, .ref hf, .ref hg, .int (iZ n), .int (iZ ni), .int (iZ lw), .int (iZ we)])), (hN, .inl (k 2, 6, .inr (.inl nfj))), (hf, .inl (k 1, 36, .inl fj)), (hg, .inl (k 1, 32, .inl g))] → va_S A s.heap H locs → lv_has ls 3 [(2, .int (iZ 1)), (1, .int (iZ n)), (0, .ref hq)] → W p l e (rj 4 0 0) s m [.ref hq].toArray below meth c H locs 0 0 (MQ below (QW (σ := ((Int × Int × Int × Int × Int × Int × Int × Int × Int × Int) × (Int64 × Int64) × ((Nat → Int32)) × ((Nat → Int64)))) (fun u => some (.int (iZ u.1.1))) (fun u => ((0 ≤ tp ∧ tp ≤ 900) ∧ (0 ≤ ln ∧ ln ≤ 900) ∧ (0 ≤ u.1.2.1 ∧ u.1.2.1 ≤ u.1.2.2.1) ∧ (u.1.2.2.1 ≤ ln) ∧ (0 ≤ u.1.2.2.2.1 ∧ u.1.2.2.2.1 ≤ 4) ∧ (-2147483648 ≤ u.1.2.2.2.2.1 ∧ u.1.2.2.2.2.1 < 2147483648) ∧ (-1 ≤ u.1.2.2.2.2.2.1 ∧ u.1.2.2.2.2.2.1 ≤ 24)) ∧ (-2147483648 ≤ u.1.2.2.2.2.2.2.2.2.2 ∧ u.1.2.2.2.2.2.2.2.2.2 < 2147483648) ∧ (((u.1.1 : Int) = 1 ∧ ∃ (q9 : Int) (F9 : Int → Int), xRock (tX bf ln) N n we F cu = .inr (q9, u.1.2.2.2.2.2.2.2.2.2, F9) ∧ cu < q9 ∧ RDX (tX bf ln) q9 u.1.2.1 u.1.2.2.1 u.1.2.2.2.1 u.1.2.2.2.2.1 u.1.2.2.2.2.2.1 u.2.1.2 ∧ xRw u.2.2.1 F9 36 ∧ xNs u.2.2.2 (xUp N n (xNm (tX bf ln) (xEn (tX bf ln) cu))) u.1.2.2.2.2.2.2.2.2.1 ∧ u.1.2.2.2.2.2.2.2.2.1 = n + 1 ∧ (0 ≤ u.1.2.2.2.2.2.2.2.2.1 ∧ u.1.2.2.2.2.2.2.2.2.1 ≤ 6) ∧ SKZ u.2.2.1 u.1.2.2.2.2.2.2.2.2.1 ∧ u.1.2.2.2.2.2.2.1 = fk ∧ u.1.2.2.2.2.2.2.2.1 = fp) ∨ ((u.1.1 : Int) = 0 ∧ xRock (tX bf ln) N n we F cu = .inl (u.1.2.2.2.2.2.2.1, u.1.2.2.2.2.2.2.2.1)))) (fun u => [(hq, .inr (6, [.ref hr1, .ref hs, .int (iZ lt)])), (hr1, .inr (4, [.ref tx, .ref kw, .int (iZ tp), .int (iZ ln), .int (iZ u.1.2.1), .int (iZ u.1.2.2.1), .int (iZ u.1.2.2.2.1), .int (iZ u.1.2.2.2.2.1), .int (iZ u.1.2.2.2.2.2.1), .long u.2.1.2, .int (iZ u.1.2.2.2.2.2.2.1), .int (iZ u.1.2.2.2.2.2.2.2.1)])), (tx, .inl (k 0, 900, .inl bf)), (kw, .inl (k 2, 25, .inr (.inl kwf))), (hs, .inr (5, [.ref hN, .ref hf, .ref hg, .int (iZ u.1.2.2.2.2.2.2.2.2.1), .int (iZ ni), .int (iZ lw), .int (iZ u.1.2.2.2.2.2.2.2.2.2)])), (hN, .inl (k 2, 6, .inr (.inl u.2.2.2))), (hf, .inl (k 1, 36, .inl u.2.2.1)), (hg, .inl (k 1, 32, .inl g))]) D A) [.ref hq].toArray s 0 0 A) (F0 m 164 ls []) := by
    intro plj enj kij vaj kej nmj fkj fpj nfj fj jp jG H locs ls jRD jrx jpl jF jN jsk jfk jeq jn5 hP hD hS hl
    obtain ⟨⟨ar_2, br_2⟩, cr_2, dr_2, er_2, fr_2, gr_2, hr_2⟩ := id jrx
    refine lv_iload_n hx hb dX6_readRock_164 rfl (lv_at hl 0 rfl) ?_
    refine lv_if_eq (tgt := 202) hx hb dX6_readRock_165 rfl (fun c => absurd c (by decide)) (fun _ => ?_)
    refine lv_aload_n hx hb dX6_readRock_168 rfl (lv_at hl 2 rfl) ?_
    refine va_get (D := D) (ci := 6) (v := .ref hr1) (C := RX6) (T := TX6) (N := 3) hx hb hts iX6 hown hK hP 0 rfl rfl 0 (bl rfl) (hts _ qf_X6_9) (fun _ h => h) rfl dX6_readRock_169 ?_
    refine va_get (D := D) (ci := 4) (v := .int (iZ kej)) (C := RX4) (T := TX4) (N := 12) hx hb hts iX4 hown hK hP 1 rfl rfl 8 (bl rfl) (hts _ qf_X6_34) (fun _ h => h) rfl dX6_readRock_172 ?_
    refine lv_bipush (v := iZ 7) hx hb dX6_readRock_175 bip_7 ?_
    refine lv_icmp_ne (tgt := 202) hx hb dX6_readRock_177 rfl (fun c_4 => ?_) (fun c_4 => ?_)
    ·
      have c_4 := mt (zeq (x := iZ kej) (y := iZ 7) rfl rfl ⟨by omega, by omega⟩ wn_7).mpr c_4
      refine lv_iload_n hx hb dX6_readRock_202 rfl (lv_at hl 0 rfl) ?_
      refine lv_if_eq (tgt := 218) hx hb dX6_readRock_203 rfl (fun c => absurd c (by decide)) (fun _ => ?_)
      refine lv_aload_n hx hb dX6_readRock_206 rfl (lv_at hl 2 rfl) ?_
      refine va_get (D := D) (ci := 6) (v := .ref hr1) (C := RX6) (T := TX6) (N := 3) hx hb hts iX6 hown hK hP 0 rfl rfl 0 (bl rfl) (hts _ qf_X6_9) (fun _ h => h) rfl dX6_readRock_207 ?_
      refine lv_bipush (v := iZ 59) hx hb dX6_readRock_210 bip_59 ?_
      refine CWV (As := [.int (iZ 59)]) (rest := []) (wc := _) (wr := [(hq, .inr (6, [.ref hr1, .ref hs, .int (iZ lt)])), (hs, .inr (5, [.ref hN, .ref hf, .ref hg, .int (iZ n), .int (iZ ni), .int (iZ lw), .int (iZ we)])), (hN, .inl (k 2, 6, .inr (.inl nfj))), (hf, .inl (k 1, 36, .inl fj)), (hg, .inl (k 1, 32, .inl g))]) hx hb hml hown hts hKK hP hD hS hA (x_takeSign l D k hr1 tx kw tp ln plj enj kij vaj kej fkj fpj nmj bf kwf jp 59 (by first | with_reducible assumption | exact ⟨⟨by omega, by omega⟩, ⟨by omega, by omega⟩, ⟨by omega, by omega⟩, by omega, ⟨by omega, by omega⟩, ⟨by omega, by omega⟩, by omega, by omega⟩) hbf hkw jrx ⟨by omega, by omega⟩) ci_X4_takeSign qm_X6_67 ⟨Nat.le_of_ble_eq_true rfl, Nat.le_of_ble_eq_true rfl⟩ ⟨Nat.le_of_ble_eq_true rfl, Nat.le_of_ble_eq_true rfl⟩ [1, 2, 3] [0, 4, 5, 6, 7] rfl rfl rfl rfl rfl (dj rfl) 0 rfl rfl rfl hl.1 rfl (Nat.le_of_ble_eq_true rfl) dX6_readRock_212 (fun u_6 H locs hφ hP hD hS => ?_)
      obtain ⟨p_7, p_8⟩ : ((0 ≤ tp ∧ tp ≤ 900) ∧ (0 ≤ ln ∧ ln ≤ 900) ∧ (0 ≤ u_6.1.2.1 ∧ u_6.1.2.1 ≤ u_6.1.2.2.1) ∧ (u_6.1.2.2.1 ≤ ln) ∧ (0 ≤ u_6.1.2.2.2.1 ∧ u_6.1.2.2.2.1 ≤ 4) ∧ (-2147483648 ≤ u_6.1.2.2.2.2.1 ∧ u_6.1.2.2.2.2.1 < 2147483648) ∧ (-1 ≤ u_6.1.2.2.2.2.2.1 ∧ u_6.1.2.2.2.2.2.1 ≤ 24)) ∧ (((u_6.1.1 : Int) = 1 ∧ ∃ q9 : Int, xTs (tX bf ln) 59 jp = .inr q9 ∧ jp < q9 ∧ RDX (tX bf ln) q9 u_6.1.2.1 u_6.1.2.2.1 u_6.1.2.2.2.1 u_6.1.2.2.2.2.1 u_6.1.2.2.2.2.2.1 u_6.2.1.2 ∧ u_6.1.2.2.2.2.2.2.1 = fkj ∧ u_6.1.2.2.2.2.2.2.2 = fpj) ∨ ((u_6.1.1 : Int) = 0 ∧ xTs (tX bf ln) 59 jp = .inl (u_6.1.2.2.2.2.2.2.1, u_6.1.2.2.2.2.2.2.2))) := hφ
      refine W.eq (g2 := F0 m 215 ls [.int (iZ u_6.1.1)]) rfl ?_
      rcases p_8 with ⟨qt_9, cut_9, st_9, lt_9, xt_9, ut_9, vt_9⟩ | ⟨qt_9, st_9⟩
      ·
        rw [qt_9]
        obtain ⟨⟨ar_10, br_10⟩, cr_10, dr_10, er_10, fr_10, gr_10, hr_10⟩ := id xt_9
        refine lv_if_ne (tgt := 220) hx hb dX6_readRock_215 rfl (fun _ => ?_) (fun c => absurd c (by decide))
        refine lv_aload_n hx hb dX6_readRock_220 rfl (lv_at hl 2 rfl) ?_
        refine va_get (D := D) (ci := 6) (v := .ref hs) (C := RX6) (T := TX6) (N := 3) hx hb hts iX6 hown hK hP 0 rfl rfl 1 (bl rfl) (hts _ qf_X6_15) (fun _ h => h) rfl dX6_readRock_221 ?_
        refine lv_dup hx hb dX6_readRock_224 rfl ?_
        refine va_get (D := D) (ci := 5) (v := .int (iZ n)) (C := RX5) (T := TX5) (N := 7) hx hb hts iX5 hown hK hP 1 rfl rfl 3 (bl rfl) (hts _ qf_X6_51) (fun _ h => h) rfl dX6_readRock_225 ?_
        refine lv_iconst (v := iZ 1) hx hb dX6_readRock_228 rfl ?_
        refine lv_iadd hx hb dX6_readRock_229 ?_
        refine lv_topi (fun x_12 ex_12 => ?_)
        obtain rfl : x_12 = iZ (n + 1) := ex_12.trans (iZ_add n 1)
        refine va_put (D := D) (ci := 5) (v := .int (iZ (n + 1))) (ty := .int) (C := RX5) (T := TX5) (N := 7) hx hb hts iX5 tyX5 tyX5_ok nmX5 hown hK hP hD hS 1 rfl rfl 3 (bl rfl) (hts _ qf_X6_51) (fun _ h => h) rfl (by decide +kernel) rfl rfl (Nat.le_of_ble_eq_true rfl) dX6_readRock_230 (fun H locs hP hD hS => ?_)
        refine lv_iconst (v := iZ 1) hx hb dX6_readRock_233 rfl ?_
        exact EWz hx hb hr hlocks hS ((1, u_6.1.2.1, u_6.1.2.2.1, u_6.1.2.2.2.1, u_6.1.2.2.2.2.1, u_6.1.2.2.2.2.2.1, u_6.1.2.2.2.2.2.2.1, u_6.1.2.2.2.2.2.2.2, (n + 1), we), (0, u_6.2.1.2), fj, nfj) rfl rfl ⟨(show (0 ≤ tp ∧ tp ≤ 900) ∧ (0 ≤ ln ∧ ln ≤ 900) ∧ (0 ≤ u_6.1.2.1 ∧ u_6.1.2.1 ≤ u_6.1.2.2.1) ∧ (u_6.1.2.2.1 ≤ ln) ∧ (0 ≤ u_6.1.2.2.2.1 ∧ u_6.1.2.2.2.1 ≤ 4) ∧ (-2147483648 ≤ u_6.1.2.2.2.2.1 ∧ u_6.1.2.2.2.2.1 < 2147483648) ∧ (-1 ≤ u_6.1.2.2.2.2.2.1 ∧ u_6.1.2.2.2.2.2.1 ≤ 24) from (by first | with_reducible assumption | exact ⟨⟨by omega, by omega⟩, ⟨by omega, by omega⟩, ⟨by omega, by omega⟩, by omega, ⟨by omega, by omega⟩, ⟨by omega, by omega⟩, by omega, by omega⟩)), (show -2147483648 ≤ we ∧ we < 2147483648 from ⟨by omega, by omega⟩), (show ((1 : Int) = 1 ∧ ∃ (q9 : Int) (F9 : Int → Int), xRock (tX bf ln) N n we F cu = .inr (q9, we, F9) ∧ cu < q9 ∧ RDX (tX bf ln) q9 u_6.1.2.1 u_6.1.2.2.1 u_6.1.2.2.2.1 u_6.1.2.2.2.2.1 u_6.1.2.2.2.2.2.1 u_6.2.1.2 ∧ xRw fj F9 36 ∧ xNs nfj (xUp N n (xNm (tX bf ln) (xEn (tX bf ln) cu))) (n + 1) ∧ (n + 1) = n + 1 ∧ (0 ≤ (n + 1) ∧ (n + 1) ≤ 6) ∧ SKZ fj (n + 1) ∧ u_6.1.2.2.2.2.2.2.1 = fk ∧ u_6.1.2.2.2.2.2.2.2 = fp) ∨ ((1 : Int) = 0 ∧ xRock (tX bf ln) N n we F cu = .inl (u_6.1.2.2.2.2.2.2.1, u_6.1.2.2.2.2.2.2.2)) from (Or.inl ⟨rfl, cut_9, jG, jeq.trans (xR5_r (xWe_0 (show ¬ xKw (tX bf ln) jp = 7 from (by omega))) st_9), by omega, xt_9, jF, jN, rfl, ⟨by omega, by omega⟩, SKR.skz jsk jn5, by omega, by omega⟩))⟩ (hP.sub [0, 5, 6, 7, 1, 2, 3, 4] rfl) (hD.sub [0, 5, 6, 7, 1, 2, 3, 4] rfl rfl) dX6_readRock_234
      ·
        rw [qt_9]
        refine lv_if_ne (tgt := 220) hx hb dX6_readRock_215 rfl (fun c => absurd (by decide) c) (fun _ => ?_)
        refine lv_iconst (v := iZ 0) hx hb dX6_readRock_218 rfl ?_
        exact EWz hx hb hr hlocks hS ((0, u_6.1.2.1, u_6.1.2.2.1, u_6.1.2.2.2.1, u_6.1.2.2.2.2.1, u_6.1.2.2.2.2.2.1, u_6.1.2.2.2.2.2.2.1, u_6.1.2.2.2.2.2.2.2, n, we), (0, u_6.2.1.2), fj, nfj) rfl rfl ⟨(show (0 ≤ tp ∧ tp ≤ 900) ∧ (0 ≤ ln ∧ ln ≤ 900) ∧ (0 ≤ u_6.1.2.1 ∧ u_6.1.2.1 ≤ u_6.1.2.2.1) ∧ (u_6.1.2.2.1 ≤ ln) ∧ (0 ≤ u_6.1.2.2.2.1 ∧ u_6.1.2.2.2.1 ≤ 4) ∧ (-2147483648 ≤ u_6.1.2.2.2.2.1 ∧ u_6.1.2.2.2.2.1 < 2147483648) ∧ (-1 ≤ u_6.1.2.2.2.2.2.1 ∧ u_6.1.2.2.2.2.2.1 ≤ 24) from (by first | with_reducible assumption | exact ⟨⟨by omega, by omega⟩, ⟨by omega, by omega⟩, ⟨by omega, by omega⟩, by omega, ⟨by omega, by omega⟩, ⟨by omega, by omega⟩, by omega, by omega⟩)), (show -2147483648 ≤ we ∧ we < 2147483648 from ⟨by omega, by omega⟩), (show ((0 : Int) = 1 ∧ ∃ (q9 : Int) (F9 : Int → Int), xRock (tX bf ln) N n we F cu = .inr (q9, we, F9) ∧ cu < q9 ∧ RDX (tX bf ln) q9 u_6.1.2.1 u_6.1.2.2.1 u_6.1.2.2.2.1 u_6.1.2.2.2.2.1 u_6.1.2.2.2.2.2.1 u_6.2.1.2 ∧ xRw fj F9 36 ∧ xNs nfj (xUp N n (xNm (tX bf ln) (xEn (tX bf ln) cu))) n ∧ n = n + 1 ∧ (0 ≤ n ∧ n ≤ 6) ∧ SKZ fj n ∧ u_6.1.2.2.2.2.2.2.1 = fk ∧ u_6.1.2.2.2.2.2.2.2 = fp) ∨ ((0 : Int) = 0 ∧ xRock (tX bf ln) N n we F cu = .inl (u_6.1.2.2.2.2.2.2.1, u_6.1.2.2.2.2.2.2.2)) from (Or.inr ⟨rfl, jeq.trans (xR5_l (xWe_0 (show ¬ xKw (tX bf ln) jp = 7 from (by omega))) st_9)⟩))⟩ (hP.sub [0, 5, 6, 7, 1, 2, 3, 4] rfl) (hD.sub [0, 5, 6, 7, 1, 2, 3, 4] rfl rfl) dX6_readRock_219
    ·
      have c_4 := (zeq (x := iZ kej) (y := iZ 7) rfl rfl ⟨by omega, by omega⟩ wn_7).mp c_4
      refine lv_aload_n hx hb dX6_readRock_180 rfl (lv_at hl 2 rfl) ?_
      refine va_get (D := D) (ci := 6) (v := .ref hr1) (C := RX6) (T := TX6) (N := 3) hx hb hts iX6 hown hK hP 0 rfl rfl 0 (bl rfl) (hts _ qf_X6_9) (fun _ h => h) rfl dX6_readRock_181 ?_
      refine CWV (As := []) (rest := []) (wc := _) (wr := [(hq, .inr (6, [.ref hr1, .ref hs, .int (iZ lt)])), (hs, .inr (5, [.ref hN, .ref hf, .ref hg, .int (iZ n), .int (iZ ni), .int (iZ lw), .int (iZ we)])), (hN, .inl (k 2, 6, .inr (.inl nfj))), (hf, .inl (k 1, 36, .inl fj)), (hg, .inl (k 1, 32, .inl g))]) hx hb hml hown hts hKK hP hD hS hA (x_next l D k hr1 tx kw tp ln plj enj kij vaj kej fkj fpj nmj bf kwf ⟨⟨by omega, by omega⟩, ⟨by omega, by omega⟩, by omega, by omega⟩ hbf hkw) ci_X4_next qm_X6_54 ⟨Nat.le_of_ble_eq_true rfl, Nat.le_of_ble_eq_true rfl⟩ ⟨Nat.le_of_ble_eq_true rfl, Nat.le_of_ble_eq_true rfl⟩ [1, 2, 3] [0, 4, 5, 6, 7] rfl rfl rfl rfl rfl (dj rfl) 0 rfl rfl rfl hl.1 rfl (Nat.le_of_ble_eq_true rfl) dX6_readRock_184 (fun u_14 H locs hφ hP hD hS => ?_)
      obtain ⟨p_15, p_16⟩ : (RDX (tX bf ln) enj u_14.1.2.1 u_14.1.2.2.1 u_14.1.2.2.2.1 u_14.1.2.2.2.2.1 u_14.1.2.2.2.2.2 u_14.2.1.2) ∧ ((0 ≤ tp ∧ tp ≤ 900) ∧ (0 ≤ ln ∧ ln ≤ 900) ∧ (0 ≤ u_14.1.2.1 ∧ u_14.1.2.1 ≤ u_14.1.2.2.1) ∧ (u_14.1.2.2.1 ≤ ln) ∧ (0 ≤ u_14.1.2.2.2.1 ∧ u_14.1.2.2.2.1 ≤ 4) ∧ (-2147483648 ≤ u_14.1.2.2.2.2.1 ∧ u_14.1.2.2.2.2.1 < 2147483648) ∧ (-1 ≤ u_14.1.2.2.2.2.2 ∧ u_14.1.2.2.2.2.2 ≤ 24)) := hφ
      have rx_17 := RDX.nx jrx p_15
      obtain ⟨⟨ar_18, br_18⟩, cr_18, dr_18, er_18, fr_18, gr_18, hr_18⟩ := id rx_17
      obtain ⟨t1u_19, t2u_19, t3u_19, t4u_19, t5u_19, t6u_19, t7u_19⟩ := id p_16
      refine W.eq (g2 := F0 m 187 ls []) rfl ?_
      refine lv_aload_n hx hb dX6_readRock_187 rfl (lv_at hl 2 rfl) ?_
      refine va_get (D := D) (ci := 6) (v := .ref hs) (C := RX6) (T := TX6) (N := 3) hx hb hts iX6 hown hK hP 0 rfl rfl 1 (bl rfl) (hts _ qf_X6_15) (fun _ h => h) rfl dX6_readRock_188 ?_
      refine lv_dup hx hb dX6_readRock_191 rfl ?_
      refine va_get (D := D) (ci := 5) (v := .int (iZ we)) (C := RX5) (T := TX5) (N := 7) hx hb hts iX5 hown hK hP 1 rfl rfl 6 (bl rfl) (hts _ qf_X6_64) (fun _ h => h) rfl dX6_readRock_192 ?_
      refine lv_iconst (v := iZ 1) hx hb dX6_readRock_195 rfl ?_
      refine lv_iload_n hx hb dX6_readRock_196 rfl (lv_at hl 1 rfl) ?_
      refine lv_ishl hx hb dX6_readRock_197 ?_
      refine lv_topi (fun x_21 ex_21 => ?_)
      obtain ⟨z_20, hz_20, hz_20a, hz_20b⟩ := i32_z x_21
      subst hz_20
      refine lv_ior hx hb dX6_readRock_198 ?_
      refine lv_topi (fun x_23 ex_23 => ?_)
      obtain ⟨z_22, hz_22, hz_22a, hz_22b⟩ := i32_z x_23
      subst hz_22
      have hor := xOr_eq (we := we) (n := n) (zs := z_20) (z := z_22) ex_21 ex_23 ⟨hz_22a, hz_22b⟩
      refine va_put (D := D) (ci := 5) (v := .int (iZ z_22)) (ty := .int) (C := RX5) (T := TX5) (N := 7) hx hb hts iX5 tyX5 tyX5_ok nmX5 hown hK hP hD hS 1 rfl rfl 6 (bl rfl) (hts _ qf_X6_64) (fun _ h => h) rfl (by decide +kernel) rfl rfl (Nat.le_of_ble_eq_true rfl) dX6_readRock_199 (fun H locs hP hD hS => ?_)
      refine lv_iload_n hx hb dX6_readRock_202 rfl (lv_at hl 0 rfl) ?_
      refine lv_if_eq (tgt := 218) hx hb dX6_readRock_203 rfl (fun c => absurd c (by decide)) (fun _ => ?_)
      refine lv_aload_n hx hb dX6_readRock_206 rfl (lv_at hl 2 rfl) ?_
      refine va_get (D := D) (ci := 6) (v := .ref hr1) (C := RX6) (T := TX6) (N := 3) hx hb hts iX6 hown hK hP 0 rfl rfl 0 (bl rfl) (hts _ qf_X6_9) (fun _ h => h) rfl dX6_readRock_207 ?_
      refine lv_bipush (v := iZ 59) hx hb dX6_readRock_210 bip_59 ?_
      refine CWV (As := [.int (iZ 59)]) (rest := []) (wc := _) (wr := [(hq, .inr (6, [.ref hr1, .ref hs, .int (iZ lt)])), (hs, .inr (5, [.ref hN, .ref hf, .ref hg, .int (iZ n), .int (iZ ni), .int (iZ lw), .int (iZ z_22)])), (hN, .inl (k 2, 6, .inr (.inl nfj))), (hf, .inl (k 1, 36, .inl fj)), (hg, .inl (k 1, 32, .inl g))]) hx hb hml hown hts hKK hP hD hS hA (x_takeSign l D k hr1 tx kw tp ln u_14.1.2.1 u_14.1.2.2.1 u_14.1.2.2.2.1 u_14.1.2.2.2.2.1 u_14.1.2.2.2.2.2 fkj fpj u_14.2.1.2 bf kwf (xEn (tX bf ln) jp) 59 (by first | with_reducible assumption | exact ⟨⟨by omega, by omega⟩, ⟨by omega, by omega⟩, ⟨by omega, by omega⟩, by omega, ⟨by omega, by omega⟩, ⟨by omega, by omega⟩, by omega, by omega⟩) hbf hkw rx_17 ⟨by omega, by omega⟩) ci_X4_takeSign qm_X6_67 ⟨Nat.le_of_ble_eq_true rfl, Nat.le_of_ble_eq_true rfl⟩ ⟨Nat.le_of_ble_eq_true rfl, Nat.le_of_ble_eq_true rfl⟩ [5, 6, 7] [0, 1, 2, 3, 4] rfl rfl rfl rfl rfl (dj rfl) 0 rfl rfl rfl hl.1 rfl (Nat.le_of_ble_eq_true rfl) dX6_readRock_212 (fun u_25 H locs hφ hP hD hS => ?_)
      obtain ⟨p_26, p_27⟩ : ((0 ≤ tp ∧ tp ≤ 900) ∧ (0 ≤ ln ∧ ln ≤ 900) ∧ (0 ≤ u_25.1.2.1 ∧ u_25.1.2.1 ≤ u_25.1.2.2.1) ∧ (u_25.1.2.2.1 ≤ ln) ∧ (0 ≤ u_25.1.2.2.2.1 ∧ u_25.1.2.2.2.1 ≤ 4) ∧ (-2147483648 ≤ u_25.1.2.2.2.2.1 ∧ u_25.1.2.2.2.2.1 < 2147483648) ∧ (-1 ≤ u_25.1.2.2.2.2.2.1 ∧ u_25.1.2.2.2.2.2.1 ≤ 24)) ∧ (((u_25.1.1 : Int) = 1 ∧ ∃ q9 : Int, xTs (tX bf ln) 59 (xEn (tX bf ln) jp) = .inr q9 ∧ (xEn (tX bf ln) jp) < q9 ∧ RDX (tX bf ln) q9 u_25.1.2.1 u_25.1.2.2.1 u_25.1.2.2.2.1 u_25.1.2.2.2.2.1 u_25.1.2.2.2.2.2.1 u_25.2.1.2 ∧ u_25.1.2.2.2.2.2.2.1 = fkj ∧ u_25.1.2.2.2.2.2.2.2 = fpj) ∨ ((u_25.1.1 : Int) = 0 ∧ xTs (tX bf ln) 59 (xEn (tX bf ln) jp) = .inl (u_25.1.2.2.2.2.2.2.1, u_25.1.2.2.2.2.2.2.2))) := hφ
      refine W.eq (g2 := F0 m 215 ls [.int (iZ u_25.1.1)]) rfl ?_
      rcases p_27 with ⟨qt_28, cut_28, st_28, lt_28, xt_28, ut_28, vt_28⟩ | ⟨qt_28, st_28⟩
      ·
        rw [qt_28]
        obtain ⟨⟨ar_29, br_29⟩, cr_29, dr_29, er_29, fr_29, gr_29, hr_29⟩ := id xt_28
        refine lv_if_ne (tgt := 220) hx hb dX6_readRock_215 rfl (fun _ => ?_) (fun c => absurd c (by decide))
        refine lv_aload_n hx hb dX6_readRock_220 rfl (lv_at hl 2 rfl) ?_
        refine va_get (D := D) (ci := 6) (v := .ref hs) (C := RX6) (T := TX6) (N := 3) hx hb hts iX6 hown hK hP 0 rfl rfl 1 (bl rfl) (hts _ qf_X6_15) (fun _ h => h) rfl dX6_readRock_221 ?_
        refine lv_dup hx hb dX6_readRock_224 rfl ?_
        refine va_get (D := D) (ci := 5) (v := .int (iZ n)) (C := RX5) (T := TX5) (N := 7) hx hb hts iX5 hown hK hP 1 rfl rfl 3 (bl rfl) (hts _ qf_X6_51) (fun _ h => h) rfl dX6_readRock_225 ?_
        refine lv_iconst (v := iZ 1) hx hb dX6_readRock_228 rfl ?_
        refine lv_iadd hx hb dX6_readRock_229 ?_
        refine lv_topi (fun x_31 ex_31 => ?_)
        obtain rfl : x_31 = iZ (n + 1) := ex_31.trans (iZ_add n 1)
        refine va_put (D := D) (ci := 5) (v := .int (iZ (n + 1))) (ty := .int) (C := RX5) (T := TX5) (N := 7) hx hb hts iX5 tyX5 tyX5_ok nmX5 hown hK hP hD hS 1 rfl rfl 3 (bl rfl) (hts _ qf_X6_51) (fun _ h => h) rfl (by decide +kernel) rfl rfl (Nat.le_of_ble_eq_true rfl) dX6_readRock_230 (fun H locs hP hD hS => ?_)
        refine lv_iconst (v := iZ 1) hx hb dX6_readRock_233 rfl ?_
        exact EWz hx hb hr hlocks hS ((1, u_25.1.2.1, u_25.1.2.2.1, u_25.1.2.2.2.1, u_25.1.2.2.2.2.1, u_25.1.2.2.2.2.2.1, u_25.1.2.2.2.2.2.2.1, u_25.1.2.2.2.2.2.2.2, (n + 1), z_22), (0, u_25.2.1.2), fj, nfj) rfl rfl ⟨(show (0 ≤ tp ∧ tp ≤ 900) ∧ (0 ≤ ln ∧ ln ≤ 900) ∧ (0 ≤ u_25.1.2.1 ∧ u_25.1.2.1 ≤ u_25.1.2.2.1) ∧ (u_25.1.2.2.1 ≤ ln) ∧ (0 ≤ u_25.1.2.2.2.1 ∧ u_25.1.2.2.2.1 ≤ 4) ∧ (-2147483648 ≤ u_25.1.2.2.2.2.1 ∧ u_25.1.2.2.2.2.1 < 2147483648) ∧ (-1 ≤ u_25.1.2.2.2.2.2.1 ∧ u_25.1.2.2.2.2.2.1 ≤ 24) from (by first | with_reducible assumption | exact ⟨⟨by omega, by omega⟩, ⟨by omega, by omega⟩, ⟨by omega, by omega⟩, by omega, ⟨by omega, by omega⟩, ⟨by omega, by omega⟩, by omega, by omega⟩)), (show -2147483648 ≤ z_22 ∧ z_22 < 2147483648 from ⟨by omega, by omega⟩), (show ((1 : Int) = 1 ∧ ∃ (q9 : Int) (F9 : Int → Int), xRock (tX bf ln) N n we F cu = .inr (q9, z_22, F9) ∧ cu < q9 ∧ RDX (tX bf ln) q9 u_25.1.2.1 u_25.1.2.2.1 u_25.1.2.2.2.1 u_25.1.2.2.2.2.1 u_25.1.2.2.2.2.2.1 u_25.2.1.2 ∧ xRw fj F9 36 ∧ xNs nfj (xUp N n (xNm (tX bf ln) (xEn (tX bf ln) cu))) (n + 1) ∧ (n + 1) = n + 1 ∧ (0 ≤ (n + 1) ∧ (n + 1) ≤ 6) ∧ SKZ fj (n + 1) ∧ u_25.1.2.2.2.2.2.2.1 = fk ∧ u_25.1.2.2.2.2.2.2.2 = fp) ∨ ((1 : Int) = 0 ∧ xRock (tX bf ln) N n we F cu = .inl (u_25.1.2.2.2.2.2.2.1, u_25.1.2.2.2.2.2.2.2)) from (Or.inl ⟨rfl, cut_28, jG, jeq.trans (xR5_r (xWe_1 (show xKw (tX bf ln) jp = 7 from (by omega)) hor) st_28), by omega, xt_28, jF, jN, rfl, ⟨by omega, by omega⟩, SKR.skz jsk jn5, by omega, by omega⟩))⟩ (hP.sub [0, 5, 6, 7, 1, 2, 3, 4] rfl) (hD.sub [0, 5, 6, 7, 1, 2, 3, 4] rfl rfl) dX6_readRock_234
      ·
        rw [qt_28]
        refine lv_if_ne (tgt := 220) hx hb dX6_readRock_215 rfl (fun c => absurd (by decide) c) (fun _ => ?_)
        refine lv_iconst (v := iZ 0) hx hb dX6_readRock_218 rfl ?_
        exact EWz hx hb hr hlocks hS ((0, u_25.1.2.1, u_25.1.2.2.1, u_25.1.2.2.2.1, u_25.1.2.2.2.2.1, u_25.1.2.2.2.2.2.1, u_25.1.2.2.2.2.2.2.1, u_25.1.2.2.2.2.2.2.2, n, z_22), (0, u_25.2.1.2), fj, nfj) rfl rfl ⟨(show (0 ≤ tp ∧ tp ≤ 900) ∧ (0 ≤ ln ∧ ln ≤ 900) ∧ (0 ≤ u_25.1.2.1 ∧ u_25.1.2.1 ≤ u_25.1.2.2.1) ∧ (u_25.1.2.2.1 ≤ ln) ∧ (0 ≤ u_25.1.2.2.2.1 ∧ u_25.1.2.2.2.1 ≤ 4) ∧ (-2147483648 ≤ u_25.1.2.2.2.2.1 ∧ u_25.1.2.2.2.2.1 < 2147483648) ∧ (-1 ≤ u_25.1.2.2.2.2.2.1 ∧ u_25.1.2.2.2.2.2.1 ≤ 24) from (by first | with_reducible assumption | exact ⟨⟨by omega, by omega⟩, ⟨by omega, by omega⟩, ⟨by omega, by omega⟩, by omega, ⟨by omega, by omega⟩, ⟨by omega, by omega⟩, by omega, by omega⟩)), (show -2147483648 ≤ z_22 ∧ z_22 < 2147483648 from ⟨by omega, by omega⟩), (show ((0 : Int) = 1 ∧ ∃ (q9 : Int) (F9 : Int → Int), xRock (tX bf ln) N n we F cu = .inr (q9, z_22, F9) ∧ cu < q9 ∧ RDX (tX bf ln) q9 u_25.1.2.1 u_25.1.2.2.1 u_25.1.2.2.2.1 u_25.1.2.2.2.2.1 u_25.1.2.2.2.2.2.1 u_25.2.1.2 ∧ xRw fj F9 36 ∧ xNs nfj (xUp N n (xNm (tX bf ln) (xEn (tX bf ln) cu))) n ∧ n = n + 1 ∧ (0 ≤ n ∧ n ≤ 6) ∧ SKZ fj n ∧ u_25.1.2.2.2.2.2.2.1 = fk ∧ u_25.1.2.2.2.2.2.2.2 = fp) ∨ ((0 : Int) = 0 ∧ xRock (tX bf ln) N n we F cu = .inl (u_25.1.2.2.2.2.2.2.1, u_25.1.2.2.2.2.2.2.2)) from (Or.inr ⟨rfl, jeq.trans (xR5_l (xWe_1 (show xKw (tX bf ln) jp = 7 from (by omega)) hor) st_28)⟩))⟩ (hP.sub [0, 5, 6, 7, 1, 2, 3, 4] rfl) (hD.sub [0, 5, 6, 7, 1, 2, 3, 4] rfl rfl) dX6_readRock_219
  have HJ112 : ∀ (plj : Int) (enj : Int) (kij : Int) (vaj : Int) (kej : Int) (nmj : Int64) (fkj : Int) (fpj : Int) (nfj : Nat → Int64) (fj : Nat → Int32) (jp : Int) (jG : Int → Int) (H : Heap) (locs : List Loc) (ls : Array Slot), ((0 ≤ tp ∧ tp ≤ 900) ∧ (0 ≤ ln ∧ ln ≤ 900) ∧ (0 ≤ plj ∧ plj ≤ enj) ∧ (enj ≤ ln) ∧ (0 ≤ kij ∧ kij ≤ 4) ∧ (-2147483648 ≤ vaj ∧ vaj < 2147483648) ∧ (-1 ≤ kej ∧ kej ≤ 24)) → (RDX (tX bf ln) jp plj enj kij vaj kej nmj) → (cu < jp) → (xRw fj jG 36) → (xNs nfj (xUp N n (xNm (tX bf ln) (xEn (tX bf ln) cu))) (n + 1)) → (SKR fj n 1) → (fkj = fk ∧ fpj = fp) → (xRock (tX bf ln) N n we F cu = xR4 (tX bf ln) n we jp jG) → (0 ≤ n ∧ n < 6) → va_P D vwCl [(hq, .inr (6, [.ref hr1, .ref hs, .int (iZ lt)])), (hr1, .inr (4, [.ref tx, .ref kw, .int (iZ tp), .int (iZ ln), .int (iZ plj), .int (iZ enj), .int (iZ kij), .int (iZ vaj), .int (iZ kej), .long nmj, .int (iZ fkj), .int (iZ fpj)])), (tx, .inl (k 0, 900, .inl bf)), (kw, .inl (k 2, 25, .inr (.inl kwf))), (hs, .inr (5, [.ref hN, .ref hf, .ref hg, .int (iZ n), .int (iZ ni), .int (iZ lw), .int (iZ we)])), (hN, .inl (k 2, 6, .inr (.inl nfj))), (hf, .inl (k 1, 36, .inl fj)), (hg, .inl (k 1, 32, .inl g))] H → va_D A [(hq, .inr (6, [.ref hr1, .ref hs, .int (iZ lt)])), (hr1, .inr (4, [.ref tx, .ref kw, .int (iZ tp), .int (iZ ln), .int (iZ plj), .int (iZ enj), .int (iZ kij), .int (iZ vaj), .int (iZ kej), .long nmj, .int (iZ fkj), .int (iZ fpj)])), (tx, .inl (k 0, 900, .inl bf)), (kw, .inl (k 2, 25, .inr (.inl kwf))), (hs, .inr (5, [.ref hN, .ref hf, .ref hg, .int (iZ n), .int (iZ ni), .int (iZ lw), .int (iZ we)])), (hN, .inl (k 2, 6, .inr (.inl nfj))), (hf, .inl (k 1, 36, .inl fj)), (hg, .inl (k 1, 32, .inl g))] → va_S A s.heap H locs → lv_has ls 3 [(2, .int (iZ 1)), (1, .int (iZ n)), (0, .ref hq)] → W p l e (rj 4 0 0) s m [.ref hq].toArray below meth c H locs 0 0 (MQ below (QW (σ := ((Int × Int × Int × Int × Int × Int × Int × Int × Int × Int) × (Int64 × Int64) × ((Nat → Int32)) × ((Nat → Int64)))) (fun u => some (.int (iZ u.1.1))) (fun u => ((0 ≤ tp ∧ tp ≤ 900) ∧ (0 ≤ ln ∧ ln ≤ 900) ∧ (0 ≤ u.1.2.1 ∧ u.1.2.1 ≤ u.1.2.2.1) ∧ (u.1.2.2.1 ≤ ln) ∧ (0 ≤ u.1.2.2.2.1 ∧ u.1.2.2.2.1 ≤ 4) ∧ (-2147483648 ≤ u.1.2.2.2.2.1 ∧ u.1.2.2.2.2.1 < 2147483648) ∧ (-1 ≤ u.1.2.2.2.2.2.1 ∧ u.1.2.2.2.2.2.1 ≤ 24)) ∧ (-2147483648 ≤ u.1.2.2.2.2.2.2.2.2.2 ∧ u.1.2.2.2.2.2.2.2.2.2 < 2147483648) ∧ (((u.1.1 : Int) = 1 ∧ ∃ (q9 : Int) (F9 : Int → Int), xRock (tX bf ln) N n we F cu = .inr (q9, u.1.2.2.2.2.2.2.2.2.2, F9) ∧ cu < q9 ∧ RDX (tX bf ln) q9 u.1.2.1 u.1.2.2.1 u.1.2.2.2.1 u.1.2.2.2.2.1 u.1.2.2.2.2.2.1 u.2.1.2 ∧ xRw u.2.2.1 F9 36 ∧ xNs u.2.2.2 (xUp N n (xNm (tX bf ln) (xEn (tX bf ln) cu))) u.1.2.2.2.2.2.2.2.2.1 ∧ u.1.2.2.2.2.2.2.2.2.1 = n + 1 ∧ (0 ≤ u.1.2.2.2.2.2.2.2.2.1 ∧ u.1.2.2.2.2.2.2.2.2.1 ≤ 6) ∧ SKZ u.2.2.1 u.1.2.2.2.2.2.2.2.2.1 ∧ u.1.2.2.2.2.2.2.1 = fk ∧ u.1.2.2.2.2.2.2.2.1 = fp) ∨ ((u.1.1 : Int) = 0 ∧ xRock (tX bf ln) N n we F cu = .inl (u.1.2.2.2.2.2.2.1, u.1.2.2.2.2.2.2.2.1)))) (fun u => [(hq, .inr (6, [.ref hr1, .ref hs, .int (iZ lt)])), (hr1, .inr (4, [.ref tx, .ref kw, .int (iZ tp), .int (iZ ln), .int (iZ u.1.2.1), .int (iZ u.1.2.2.1), .int (iZ u.1.2.2.2.1), .int (iZ u.1.2.2.2.2.1), .int (iZ u.1.2.2.2.2.2.1), .long u.2.1.2, .int (iZ u.1.2.2.2.2.2.2.1), .int (iZ u.1.2.2.2.2.2.2.2.1)])), (tx, .inl (k 0, 900, .inl bf)), (kw, .inl (k 2, 25, .inr (.inl kwf))), (hs, .inr (5, [.ref hN, .ref hf, .ref hg, .int (iZ u.1.2.2.2.2.2.2.2.2.1), .int (iZ ni), .int (iZ lw), .int (iZ u.1.2.2.2.2.2.2.2.2.2)])), (hN, .inl (k 2, 6, .inr (.inl u.2.2.2))), (hf, .inl (k 1, 36, .inl u.2.2.1)), (hg, .inl (k 1, 32, .inl g))]) D A) [.ref hq].toArray s 0 0 A) (F0 m 112 ls []) := by
    intro plj enj kij vaj kej nmj fkj fpj nfj fj jp jG H locs ls jRD jrx jpl jF jN jsk jfk jeq jn5 hP hD hS hl
    obtain ⟨⟨ar_33, br_33⟩, cr_33, dr_33, er_33, fr_33, gr_33, hr_33⟩ := id jrx
    refine lv_iload_n hx hb dX6_readRock_112 rfl (lv_at hl 0 rfl) ?_
    refine lv_if_eq (tgt := 164) hx hb dX6_readRock_113 rfl (fun c => absurd c (by decide)) (fun _ => ?_)
    refine lv_aload_n hx hb dX6_readRock_116 rfl (lv_at hl 2 rfl) ?_
    refine va_get (D := D) (ci := 6) (v := .ref hr1) (C := RX6) (T := TX6) (N := 3) hx hb hts iX6 hown hK hP 0 rfl rfl 0 (bl rfl) (hts _ qf_X6_9) (fun _ h => h) rfl dX6_readRock_117 ?_
    refine va_get (D := D) (ci := 4) (v := .int (iZ kej)) (C := RX4) (T := TX4) (N := 12) hx hb hts iX4 hown hK hP 1 rfl rfl 8 (bl rfl) (hts _ qf_X6_34) (fun _ h => h) rfl dX6_readRock_120 ?_
    refine lv_iconst (v := iZ 5) hx hb dX6_readRock_123 rfl ?_
    refine lv_icmp_ne (tgt := 164) hx hb dX6_readRock_124 rfl (fun c_35 => ?_) (fun c_35 => ?_)
    ·
      have c_35 := mt (zeq (x := iZ kej) (y := iZ 5) rfl rfl ⟨by omega, by omega⟩ wn_5).mpr c_35
      exact HJ164 plj enj kij vaj kej nmj fkj fpj nfj fj jp jG _ _ _ (show (0 ≤ tp ∧ tp ≤ 900) ∧ (0 ≤ ln ∧ ln ≤ 900) ∧ (0 ≤ plj ∧ plj ≤ enj) ∧ (enj ≤ ln) ∧ (0 ≤ kij ∧ kij ≤ 4) ∧ (-2147483648 ≤ vaj ∧ vaj < 2147483648) ∧ (-1 ≤ kej ∧ kej ≤ 24) from (by first | with_reducible assumption | exact ⟨⟨by omega, by omega⟩, ⟨by omega, by omega⟩, ⟨by omega, by omega⟩, by omega, ⟨by omega, by omega⟩, ⟨by omega, by omega⟩, by omega, by omega⟩)) (show RDX (tX bf ln) jp plj enj kij vaj kej nmj from jrx) (show cu < jp from (by omega)) (show xRw fj jG 36 from jF) (show xNs nfj (xUp N n (xNm (tX bf ln) (xEn (tX bf ln) cu))) (n + 1) from jN) (show SKR fj n 1 from jsk) (show fkj = fk ∧ fpj = fp from ⟨by omega, by omega⟩) (show xRock (tX bf ln) N n we F cu = xR5 (tX bf ln) n we jp jG from (jeq.trans (xR4_r (xPr_0 (show ¬ xKw (tX bf ln) jp = 5 from (by omega)))))) (show 0 ≤ n ∧ n < 6 from ⟨by omega, by omega⟩) (hP.sub [0, 1, 2, 3, 4, 5, 6, 7] rfl) (hD.sub [0, 1, 2, 3, 4, 5, 6, 7] rfl rfl) hS (lv_sub hl [0, 1, 2] rfl)
    ·
      have c_35 := (zeq (x := iZ kej) (y := iZ 5) rfl rfl ⟨by omega, by omega⟩ wn_5).mp c_35
      refine lv_aload_n hx hb dX6_readRock_127 rfl (lv_at hl 2 rfl) ?_
      refine lv_iconst (v := iZ 5) hx hb dX6_readRock_128 rfl ?_
      refine lv_iconst (v := iZ 4) hx hb dX6_readRock_129 rfl ?_
      refine lv_iconst (v := iZ 0) hx hb dX6_readRock_130 rfl ?_
      refine lv_bipush (v := iZ 99) hx hb dX6_readRock_131 bip_99 ?_
      refine CWV (As := [.int (iZ 5), .int (iZ 4), .int (iZ 0), .int (iZ 99)]) (rest := []) (wc := _) (wr := []) hx hb hml hown hts hKK hP hD hS hA (x_readFact l D k hq hr1 tx kw lt tp ln plj enj kij vaj kej fkj fpj nmj bf kwf hs hN hf hg n ni lw we nfj fj g jp 5 4 0 99 jG (by first | with_reducible assumption | exact ⟨⟨by omega, by omega⟩, ⟨by omega, by omega⟩, ⟨by omega, by omega⟩, by omega, ⟨by omega, by omega⟩, ⟨by omega, by omega⟩, by omega, by omega⟩) hbf hkw jrx ⟨by omega, by omega⟩ ⟨by omega, by omega⟩ ⟨by omega, by omega⟩ ⟨by omega, by omega⟩ ⟨by omega, by omega⟩) ci_X6_readFact qm_X6_60 ⟨Nat.le_of_ble_eq_true rfl, Nat.le_of_ble_eq_true rfl⟩ ⟨Nat.le_of_ble_eq_true rfl, Nat.le_of_ble_eq_true rfl⟩ [0, 1, 2, 3, 4, 5, 6, 7] [] rfl rfl rfl rfl rfl (dj rfl) 0 rfl rfl rfl hl.1 rfl (Nat.le_of_ble_eq_true rfl) dX6_readRock_133 (fun u_36 H locs hφ hP hD hS => ?_)
      obtain ⟨p_37, p_38⟩ : ((0 ≤ tp ∧ tp ≤ 900) ∧ (0 ≤ ln ∧ ln ≤ 900) ∧ (0 ≤ u_36.1.2.1 ∧ u_36.1.2.1 ≤ u_36.1.2.2.1) ∧ (u_36.1.2.2.1 ≤ ln) ∧ (0 ≤ u_36.1.2.2.2.1 ∧ u_36.1.2.2.2.1 ≤ 4) ∧ (-2147483648 ≤ u_36.1.2.2.2.2.1 ∧ u_36.1.2.2.2.2.1 < 2147483648) ∧ (-1 ≤ u_36.1.2.2.2.2.2.1 ∧ u_36.1.2.2.2.2.2.1 ≤ 24)) ∧ (((u_36.1.1 : Int) = 1 ∧ ∃ (q9 v9 : Int), xFF (tX bf ln) 5 4 0 99 n jp jG = .inr (q9, xUp jG ((n * 6) + 4) v9) ∧ jp < q9 ∧ RDX (tX bf ln) q9 u_36.1.2.1 u_36.1.2.2.1 u_36.1.2.2.2.1 u_36.1.2.2.2.2.1 u_36.1.2.2.2.2.2.1 u_36.2.1.2 ∧ (0 ≤ v9 ∧ v9 ≤ 99) ∧ u_36.2.2.1 = upd fj (iZ ((n * 6) + 4)).toNatClampNeg (iZ v9) ∧ u_36.1.2.2.2.2.2.2.1 = fkj ∧ u_36.1.2.2.2.2.2.2.2 = fpj) ∨ ((u_36.1.1 : Int) = 0 ∧ xFF (tX bf ln) 5 4 0 99 n jp jG = .inl (u_36.1.2.2.2.2.2.2.1, u_36.1.2.2.2.2.2.2.2))) := hφ
      refine W.eq (g2 := F0 m 136 ls [.int (iZ u_36.1.1)]) rfl ?_
      rcases p_38 with ⟨qt_39, cut_39, yt_39, st_39, lt_39, xt_39, rt_39, ht_39, ut_39, vt_39⟩ | ⟨qt_39, st_39⟩
      ·
        rw [qt_39]
        obtain ⟨⟨ar_40, br_40⟩, cr_40, dr_40, er_40, fr_40, gr_40, hr_40⟩ := id xt_39
        have hF_41 := xRw.up jF ht_39 ⟨by omega, by omega⟩ ⟨by omega, by omega⟩
        have sk_42 : SKR _ n 1 := SKR.up (w := 4) jsk ht_39 ⟨by omega, by omega⟩ (by omega)
        refine lv_istore_n (lv' := [(2, .int (iZ 1)), (1, .int (iZ n)), (0, .ref hq)]) hx hb dX6_readRock_136 rfl hl (bl rfl) rfl (fun ls hl => ?_)
        refine lv_iload_n hx hb dX6_readRock_137 rfl (lv_at hl 0 rfl) ?_
        refine lv_if_eq (tgt := 164) hx hb dX6_readRock_138 rfl (fun c => absurd c (by decide)) (fun _ => ?_)
        refine lv_aload_n hx hb dX6_readRock_141 rfl (lv_at hl 2 rfl) ?_
        refine va_get (D := D) (ci := 6) (v := .ref hr1) (C := RX6) (T := TX6) (N := 3) hx hb hts iX6 hown hK hP 0 rfl rfl 0 (bl rfl) (hts _ qf_X6_9) (fun _ h => h) rfl dX6_readRock_142 ?_
        refine va_get (D := D) (ci := 4) (v := .int (iZ u_36.1.2.2.2.2.2.1)) (C := RX4) (T := TX4) (N := 12) hx hb hts iX4 hown hK hP 1 rfl rfl 8 (bl rfl) (hts _ qf_X6_34) (fun _ h => h) rfl dX6_readRock_145 ?_
        refine lv_bipush (v := iZ 6) hx hb dX6_readRock_148 bip_6 ?_
        refine lv_icmp_ne (tgt := 164) hx hb dX6_readRock_150 rfl (fun c_44 => ?_) (fun c_44 => ?_)
        ·
          have c_44 := mt (zeq (x := iZ u_36.1.2.2.2.2.2.1) (y := iZ 6) rfl rfl ⟨by omega, by omega⟩ wn_6).mpr c_44
          exact HJ164 u_36.1.2.1 u_36.1.2.2.1 u_36.1.2.2.2.1 u_36.1.2.2.2.2.1 u_36.1.2.2.2.2.2.1 u_36.2.1.2 u_36.1.2.2.2.2.2.2.1 u_36.1.2.2.2.2.2.2.2 nfj u_36.2.2.1 cut_39 (xUp jG ((n * 6) + 4) yt_39) _ _ _ (show (0 ≤ tp ∧ tp ≤ 900) ∧ (0 ≤ ln ∧ ln ≤ 900) ∧ (0 ≤ u_36.1.2.1 ∧ u_36.1.2.1 ≤ u_36.1.2.2.1) ∧ (u_36.1.2.2.1 ≤ ln) ∧ (0 ≤ u_36.1.2.2.2.1 ∧ u_36.1.2.2.2.1 ≤ 4) ∧ (-2147483648 ≤ u_36.1.2.2.2.2.1 ∧ u_36.1.2.2.2.2.1 < 2147483648) ∧ (-1 ≤ u_36.1.2.2.2.2.2.1 ∧ u_36.1.2.2.2.2.2.1 ≤ 24) from (by first | with_reducible assumption | exact ⟨⟨by omega, by omega⟩, ⟨by omega, by omega⟩, ⟨by omega, by omega⟩, by omega, ⟨by omega, by omega⟩, ⟨by omega, by omega⟩, by omega, by omega⟩)) (show RDX (tX bf ln) cut_39 u_36.1.2.1 u_36.1.2.2.1 u_36.1.2.2.2.1 u_36.1.2.2.2.2.1 u_36.1.2.2.2.2.2.1 u_36.2.1.2 from xt_39) (show cu < cut_39 from (by omega)) (show xRw u_36.2.2.1 (xUp jG ((n * 6) + 4) yt_39) 36 from hF_41) (show xNs nfj (xUp N n (xNm (tX bf ln) (xEn (tX bf ln) cu))) (n + 1) from jN) (show SKR u_36.2.2.1 n 1 from sk_42) (show u_36.1.2.2.2.2.2.2.1 = fk ∧ u_36.1.2.2.2.2.2.2.2 = fp from ⟨by omega, by omega⟩) (show xRock (tX bf ln) N n we F cu = xR5 (tX bf ln) n we cut_39 (xUp jG ((n * 6) + 4) yt_39) from (jeq.trans (xR4_r (xPr_1 (show xKw (tX bf ln) jp = 5 from (by omega)) st_39 (xOF_0 (show ¬ xKw (tX bf ln) cut_39 = 6 from (by omega))))))) (show 0 ≤ n ∧ n < 6 from ⟨by omega, by omega⟩) (hP.sub [0, 1, 2, 3, 4, 5, 6, 7] rfl) (hD.sub [0, 1, 2, 3, 4, 5, 6, 7] rfl rfl) hS (lv_sub hl [0, 1, 2] rfl)
        ·
          have c_44 := (zeq (x := iZ u_36.1.2.2.2.2.2.1) (y := iZ 6) rfl rfl ⟨by omega, by omega⟩ wn_6).mp c_44
          refine lv_aload_n hx hb dX6_readRock_153 rfl (lv_at hl 2 rfl) ?_
          refine lv_bipush (v := iZ 6) hx hb dX6_readRock_154 bip_6 ?_
          refine lv_iconst (v := iZ 5) hx hb dX6_readRock_156 rfl ?_
          refine lv_iconst (v := iZ 0) hx hb dX6_readRock_157 rfl ?_
          refine lv_bipush (v := iZ 20) hx hb dX6_readRock_158 bip_20 ?_
          refine CWV (As := [.int (iZ 6), .int (iZ 5), .int (iZ 0), .int (iZ 20)]) (rest := []) (wc := _) (wr := []) hx hb hml hown hts hKK hP hD hS hA (x_readFact l D k hq hr1 tx kw lt tp ln u_36.1.2.1 u_36.1.2.2.1 u_36.1.2.2.2.1 u_36.1.2.2.2.2.1 u_36.1.2.2.2.2.2.1 u_36.1.2.2.2.2.2.2.1 u_36.1.2.2.2.2.2.2.2 u_36.2.1.2 bf kwf hs hN hf hg n ni lw we nfj u_36.2.2.1 g cut_39 6 5 0 20 (xUp jG ((n * 6) + 4) yt_39) (by first | with_reducible assumption | exact ⟨⟨by omega, by omega⟩, ⟨by omega, by omega⟩, ⟨by omega, by omega⟩, by omega, ⟨by omega, by omega⟩, ⟨by omega, by omega⟩, by omega, by omega⟩) hbf hkw xt_39 ⟨by omega, by omega⟩ ⟨by omega, by omega⟩ ⟨by omega, by omega⟩ ⟨by omega, by omega⟩ ⟨by omega, by omega⟩) ci_X6_readFact qm_X6_60 ⟨Nat.le_of_ble_eq_true rfl, Nat.le_of_ble_eq_true rfl⟩ ⟨Nat.le_of_ble_eq_true rfl, Nat.le_of_ble_eq_true rfl⟩ [0, 1, 2, 3, 4, 5, 6, 7] [] rfl rfl rfl rfl rfl (dj rfl) 0 rfl rfl rfl hl.1 rfl (Nat.le_of_ble_eq_true rfl) dX6_readRock_160 (fun u_45 H locs hφ hP hD hS => ?_)
          obtain ⟨p_46, p_47⟩ : ((0 ≤ tp ∧ tp ≤ 900) ∧ (0 ≤ ln ∧ ln ≤ 900) ∧ (0 ≤ u_45.1.2.1 ∧ u_45.1.2.1 ≤ u_45.1.2.2.1) ∧ (u_45.1.2.2.1 ≤ ln) ∧ (0 ≤ u_45.1.2.2.2.1 ∧ u_45.1.2.2.2.1 ≤ 4) ∧ (-2147483648 ≤ u_45.1.2.2.2.2.1 ∧ u_45.1.2.2.2.2.1 < 2147483648) ∧ (-1 ≤ u_45.1.2.2.2.2.2.1 ∧ u_45.1.2.2.2.2.2.1 ≤ 24)) ∧ (((u_45.1.1 : Int) = 1 ∧ ∃ (q9 v9 : Int), xFF (tX bf ln) 6 5 0 20 n cut_39 (xUp jG ((n * 6) + 4) yt_39) = .inr (q9, xUp (xUp jG ((n * 6) + 4) yt_39) ((n * 6) + 5) v9) ∧ cut_39 < q9 ∧ RDX (tX bf ln) q9 u_45.1.2.1 u_45.1.2.2.1 u_45.1.2.2.2.1 u_45.1.2.2.2.2.1 u_45.1.2.2.2.2.2.1 u_45.2.1.2 ∧ (0 ≤ v9 ∧ v9 ≤ 20) ∧ u_45.2.2.1 = upd u_36.2.2.1 (iZ ((n * 6) + 5)).toNatClampNeg (iZ v9) ∧ u_45.1.2.2.2.2.2.2.1 = u_36.1.2.2.2.2.2.2.1 ∧ u_45.1.2.2.2.2.2.2.2 = u_36.1.2.2.2.2.2.2.2) ∨ ((u_45.1.1 : Int) = 0 ∧ xFF (tX bf ln) 6 5 0 20 n cut_39 (xUp jG ((n * 6) + 4) yt_39) = .inl (u_45.1.2.2.2.2.2.2.1, u_45.1.2.2.2.2.2.2.2))) := hφ
          refine W.eq (g2 := F0 m 163 ls [.int (iZ u_45.1.1)]) rfl ?_
          rcases p_47 with ⟨qt_48, cut_48, yt_48, st_48, lt_48, xt_48, rt_48, ht_48, ut_48, vt_48⟩ | ⟨qt_48, st_48⟩
          ·
            rw [qt_48]
            obtain ⟨⟨ar_49, br_49⟩, cr_49, dr_49, er_49, fr_49, gr_49, hr_49⟩ := id xt_48
            have hF_50 := xRw.up hF_41 ht_48 ⟨by omega, by omega⟩ ⟨by omega, by omega⟩
            have sk_51 : SKR _ n 1 := SKR.up (w := 5) sk_42 ht_48 ⟨by omega, by omega⟩ (by omega)
            refine lv_istore_n (lv' := [(2, .int (iZ 1)), (1, .int (iZ n)), (0, .ref hq)]) hx hb dX6_readRock_163 rfl hl (bl rfl) rfl (fun ls hl => ?_)
            exact HJ164 u_45.1.2.1 u_45.1.2.2.1 u_45.1.2.2.2.1 u_45.1.2.2.2.2.1 u_45.1.2.2.2.2.2.1 u_45.2.1.2 u_45.1.2.2.2.2.2.2.1 u_45.1.2.2.2.2.2.2.2 nfj u_45.2.2.1 cut_48 (xUp (xUp jG ((n * 6) + 4) yt_39) ((n * 6) + 5) yt_48) _ _ _ (show (0 ≤ tp ∧ tp ≤ 900) ∧ (0 ≤ ln ∧ ln ≤ 900) ∧ (0 ≤ u_45.1.2.1 ∧ u_45.1.2.1 ≤ u_45.1.2.2.1) ∧ (u_45.1.2.2.1 ≤ ln) ∧ (0 ≤ u_45.1.2.2.2.1 ∧ u_45.1.2.2.2.1 ≤ 4) ∧ (-2147483648 ≤ u_45.1.2.2.2.2.1 ∧ u_45.1.2.2.2.2.1 < 2147483648) ∧ (-1 ≤ u_45.1.2.2.2.2.2.1 ∧ u_45.1.2.2.2.2.2.1 ≤ 24) from (by first | with_reducible assumption | exact ⟨⟨by omega, by omega⟩, ⟨by omega, by omega⟩, ⟨by omega, by omega⟩, by omega, ⟨by omega, by omega⟩, ⟨by omega, by omega⟩, by omega, by omega⟩)) (show RDX (tX bf ln) cut_48 u_45.1.2.1 u_45.1.2.2.1 u_45.1.2.2.2.1 u_45.1.2.2.2.2.1 u_45.1.2.2.2.2.2.1 u_45.2.1.2 from xt_48) (show cu < cut_48 from (by omega)) (show xRw u_45.2.2.1 (xUp (xUp jG ((n * 6) + 4) yt_39) ((n * 6) + 5) yt_48) 36 from hF_50) (show xNs nfj (xUp N n (xNm (tX bf ln) (xEn (tX bf ln) cu))) (n + 1) from jN) (show SKR u_45.2.2.1 n 1 from sk_51) (show u_45.1.2.2.2.2.2.2.1 = fk ∧ u_45.1.2.2.2.2.2.2.2 = fp from ⟨by omega, by omega⟩) (show xRock (tX bf ln) N n we F cu = xR5 (tX bf ln) n we cut_48 (xUp (xUp jG ((n * 6) + 4) yt_39) ((n * 6) + 5) yt_48) from (jeq.trans (xR4_r (xPr_1 (show xKw (tX bf ln) jp = 5 from (by omega)) st_39 (xOF_1 (show xKw (tX bf ln) cut_39 = 6 from (by omega)) st_48))))) (show 0 ≤ n ∧ n < 6 from ⟨by omega, by omega⟩) (hP.sub [0, 1, 2, 3, 4, 5, 6, 7] rfl) (hD.sub [0, 1, 2, 3, 4, 5, 6, 7] rfl rfl) hS (lv_sub hl [0, 1, 2] rfl)
          ·
            rw [qt_48]
            refine lv_istore_n (lv' := [(2, .int (iZ 0)), (1, .int (iZ n)), (0, .ref hq)]) hx hb dX6_readRock_163 rfl hl (bl rfl) rfl (fun ls hl => ?_)
            refine lv_iload_n hx hb dX6_readRock_164 rfl (lv_at hl 0 rfl) ?_
            refine lv_if_eq (tgt := 202) hx hb dX6_readRock_165 rfl (fun _ => ?_) (fun c => absurd (by decide) c)
            refine lv_iload_n hx hb dX6_readRock_202 rfl (lv_at hl 0 rfl) ?_
            refine lv_if_eq (tgt := 218) hx hb dX6_readRock_203 rfl (fun _ => ?_) (fun c => absurd (by decide) c)
            refine lv_iconst (v := iZ 0) hx hb dX6_readRock_218 rfl ?_
            exact EWz hx hb hr hlocks hS ((0, u_45.1.2.1, u_45.1.2.2.1, u_45.1.2.2.2.1, u_45.1.2.2.2.2.1, u_45.1.2.2.2.2.2.1, u_45.1.2.2.2.2.2.2.1, u_45.1.2.2.2.2.2.2.2, n, we), (0, u_45.2.1.2), u_45.2.2.1, nfj) rfl rfl ⟨(show (0 ≤ tp ∧ tp ≤ 900) ∧ (0 ≤ ln ∧ ln ≤ 900) ∧ (0 ≤ u_45.1.2.1 ∧ u_45.1.2.1 ≤ u_45.1.2.2.1) ∧ (u_45.1.2.2.1 ≤ ln) ∧ (0 ≤ u_45.1.2.2.2.1 ∧ u_45.1.2.2.2.1 ≤ 4) ∧ (-2147483648 ≤ u_45.1.2.2.2.2.1 ∧ u_45.1.2.2.2.2.1 < 2147483648) ∧ (-1 ≤ u_45.1.2.2.2.2.2.1 ∧ u_45.1.2.2.2.2.2.1 ≤ 24) from (by first | with_reducible assumption | exact ⟨⟨by omega, by omega⟩, ⟨by omega, by omega⟩, ⟨by omega, by omega⟩, by omega, ⟨by omega, by omega⟩, ⟨by omega, by omega⟩, by omega, by omega⟩)), (show -2147483648 ≤ we ∧ we < 2147483648 from ⟨by omega, by omega⟩), (show ((0 : Int) = 1 ∧ ∃ (q9 : Int) (F9 : Int → Int), xRock (tX bf ln) N n we F cu = .inr (q9, we, F9) ∧ cu < q9 ∧ RDX (tX bf ln) q9 u_45.1.2.1 u_45.1.2.2.1 u_45.1.2.2.2.1 u_45.1.2.2.2.2.1 u_45.1.2.2.2.2.2.1 u_45.2.1.2 ∧ xRw u_45.2.2.1 F9 36 ∧ xNs nfj (xUp N n (xNm (tX bf ln) (xEn (tX bf ln) cu))) n ∧ n = n + 1 ∧ (0 ≤ n ∧ n ≤ 6) ∧ SKZ u_45.2.2.1 n ∧ u_45.1.2.2.2.2.2.2.1 = fk ∧ u_45.1.2.2.2.2.2.2.2 = fp) ∨ ((0 : Int) = 0 ∧ xRock (tX bf ln) N n we F cu = .inl (u_45.1.2.2.2.2.2.2.1, u_45.1.2.2.2.2.2.2.2)) from (Or.inr ⟨rfl, (jeq.trans (xR4_l (xPr_1 (show xKw (tX bf ln) jp = 5 from (by omega)) st_39 (xOF_1 (show xKw (tX bf ln) cut_39 = 6 from (by omega)) st_48))))⟩))⟩ (hP.sub [0, 1, 2, 3, 4, 5, 6, 7] rfl) (hD.sub [0, 1, 2, 3, 4, 5, 6, 7] rfl rfl) dX6_readRock_219
      ·
        rw [qt_39]
        refine lv_istore_n (lv' := [(2, .int (iZ 0)), (1, .int (iZ n)), (0, .ref hq)]) hx hb dX6_readRock_136 rfl hl (bl rfl) rfl (fun ls hl => ?_)
        refine lv_iload_n hx hb dX6_readRock_137 rfl (lv_at hl 0 rfl) ?_
        refine lv_if_eq (tgt := 164) hx hb dX6_readRock_138 rfl (fun _ => ?_) (fun c => absurd (by decide) c)
        refine lv_iload_n hx hb dX6_readRock_164 rfl (lv_at hl 0 rfl) ?_
        refine lv_if_eq (tgt := 202) hx hb dX6_readRock_165 rfl (fun _ => ?_) (fun c => absurd (by decide) c)
        refine lv_iload_n hx hb dX6_readRock_202 rfl (lv_at hl 0 rfl) ?_
        refine lv_if_eq (tgt := 218) hx hb dX6_readRock_203 rfl (fun _ => ?_) (fun c => absurd (by decide) c)
        refine lv_iconst (v := iZ 0) hx hb dX6_readRock_218 rfl ?_
        exact EWz hx hb hr hlocks hS ((0, u_36.1.2.1, u_36.1.2.2.1, u_36.1.2.2.2.1, u_36.1.2.2.2.2.1, u_36.1.2.2.2.2.2.1, u_36.1.2.2.2.2.2.2.1, u_36.1.2.2.2.2.2.2.2, n, we), (0, u_36.2.1.2), u_36.2.2.1, nfj) rfl rfl ⟨(show (0 ≤ tp ∧ tp ≤ 900) ∧ (0 ≤ ln ∧ ln ≤ 900) ∧ (0 ≤ u_36.1.2.1 ∧ u_36.1.2.1 ≤ u_36.1.2.2.1) ∧ (u_36.1.2.2.1 ≤ ln) ∧ (0 ≤ u_36.1.2.2.2.1 ∧ u_36.1.2.2.2.1 ≤ 4) ∧ (-2147483648 ≤ u_36.1.2.2.2.2.1 ∧ u_36.1.2.2.2.2.1 < 2147483648) ∧ (-1 ≤ u_36.1.2.2.2.2.2.1 ∧ u_36.1.2.2.2.2.2.1 ≤ 24) from (by first | with_reducible assumption | exact ⟨⟨by omega, by omega⟩, ⟨by omega, by omega⟩, ⟨by omega, by omega⟩, by omega, ⟨by omega, by omega⟩, ⟨by omega, by omega⟩, by omega, by omega⟩)), (show -2147483648 ≤ we ∧ we < 2147483648 from ⟨by omega, by omega⟩), (show ((0 : Int) = 1 ∧ ∃ (q9 : Int) (F9 : Int → Int), xRock (tX bf ln) N n we F cu = .inr (q9, we, F9) ∧ cu < q9 ∧ RDX (tX bf ln) q9 u_36.1.2.1 u_36.1.2.2.1 u_36.1.2.2.2.1 u_36.1.2.2.2.2.1 u_36.1.2.2.2.2.2.1 u_36.2.1.2 ∧ xRw u_36.2.2.1 F9 36 ∧ xNs nfj (xUp N n (xNm (tX bf ln) (xEn (tX bf ln) cu))) n ∧ n = n + 1 ∧ (0 ≤ n ∧ n ≤ 6) ∧ SKZ u_36.2.2.1 n ∧ u_36.1.2.2.2.2.2.2.1 = fk ∧ u_36.1.2.2.2.2.2.2.2 = fp) ∨ ((0 : Int) = 0 ∧ xRock (tX bf ln) N n we F cu = .inl (u_36.1.2.2.2.2.2.2.1, u_36.1.2.2.2.2.2.2.2)) from (Or.inr ⟨rfl, (jeq.trans (xR4_l (xPr_l (show xKw (tX bf ln) jp = 5 from (by omega)) st_39)))⟩))⟩ (hP.sub [0, 1, 2, 3, 4, 5, 6, 7] rfl) (hD.sub [0, 1, 2, 3, 4, 5, 6, 7] rfl rfl) dX6_readRock_219
  refine lv_aload_n hx hb dX6_readRock_0 rfl (lv_at hl 0 rfl) ?_
  refine va_get (D := D) (ci := 6) (v := .ref hs) (C := RX6) (T := TX6) (N := 3) hx hb hts iX6 hown hK hP 0 rfl rfl 1 (bl rfl) (hts _ qf_X6_15) (fun _ h => h) rfl dX6_readRock_1 ?_
  refine va_get (D := D) (ci := 5) (v := .int (iZ n)) (C := RX5) (T := TX5) (N := 7) hx hb hts iX5 hown hK hP 4 rfl rfl 3 (bl rfl) (hts _ qf_X6_51) (fun _ h => h) rfl dX6_readRock_4 ?_
  refine lv_bipush (v := iZ 6) hx hb dX6_readRock_7 bip_6 ?_
  refine lv_icmp_lt (tgt := 22) hx hb dX6_readRock_9 rfl (fun c_57 => ?_) (fun c_57 => ?_)
  ·
    have c_57 := (zlt (x := iZ n) (y := iZ 6) rfl rfl ⟨by omega, by omega⟩ wn_6).mp c_57
    have sk1 := sk0 ⟨by omega, by omega⟩
    refine lv_aload_n hx hb dX6_readRock_22 rfl (lv_at hl 0 rfl) ?_
    refine va_get (D := D) (ci := 6) (v := .ref hr1) (C := RX6) (T := TX6) (N := 3) hx hb hts iX6 hown hK hP 0 rfl rfl 0 (bl rfl) (hts _ qf_X6_9) (fun _ h => h) rfl dX6_readRock_23 ?_
    refine CWV (As := []) (rest := []) (wc := _) (wr := [(hq, .inr (6, [.ref hr1, .ref hs, .int (iZ lt)])), (hs, .inr (5, [.ref hN, .ref hf, .ref hg, .int (iZ n), .int (iZ ni), .int (iZ lw), .int (iZ we)])), (hN, .inl (k 2, 6, .inr (.inl nf))), (hf, .inl (k 1, 36, .inl f)), (hg, .inl (k 1, 32, .inl g))]) hx hb hml hown hts hKK hP hD hS hA (x_next l D k hr1 tx kw tp ln pl en ki va ke fk fp nm bf kwf ⟨⟨by omega, by omega⟩, ⟨by omega, by omega⟩, by omega, by omega⟩ hbf hkw) ci_X4_next qm_X6_54 ⟨Nat.le_of_ble_eq_true rfl, Nat.le_of_ble_eq_true rfl⟩ ⟨Nat.le_of_ble_eq_true rfl, Nat.le_of_ble_eq_true rfl⟩ [1, 2, 3] [0, 4, 5, 6, 7] rfl rfl rfl rfl rfl (dj rfl) 0 rfl rfl rfl hl.1 rfl (Nat.le_of_ble_eq_true rfl) dX6_readRock_26 (fun u_58 H locs hφ hP hD hS => ?_)
    obtain ⟨p_59, p_60⟩ : (RDX (tX bf ln) en u_58.1.2.1 u_58.1.2.2.1 u_58.1.2.2.2.1 u_58.1.2.2.2.2.1 u_58.1.2.2.2.2.2 u_58.2.1.2) ∧ ((0 ≤ tp ∧ tp ≤ 900) ∧ (0 ≤ ln ∧ ln ≤ 900) ∧ (0 ≤ u_58.1.2.1 ∧ u_58.1.2.1 ≤ u_58.1.2.2.1) ∧ (u_58.1.2.2.1 ≤ ln) ∧ (0 ≤ u_58.1.2.2.2.1 ∧ u_58.1.2.2.2.1 ≤ 4) ∧ (-2147483648 ≤ u_58.1.2.2.2.2.1 ∧ u_58.1.2.2.2.2.1 < 2147483648) ∧ (-1 ≤ u_58.1.2.2.2.2.2 ∧ u_58.1.2.2.2.2.2 ≤ 24)) := hφ
    have rx_61 := RDX.nx hrx p_59
    obtain ⟨⟨ar_62, br_62⟩, cr_62, dr_62, er_62, fr_62, gr_62, hr_62⟩ := id rx_61
    obtain ⟨t1u_63, t2u_63, t3u_63, t4u_63, t5u_63, t6u_63, t7u_63⟩ := id p_60
    refine W.eq (g2 := F0 m 29 ls []) rfl ?_
    refine lv_aload_n hx hb dX6_readRock_29 rfl (lv_at hl 0 rfl) ?_
    refine va_get (D := D) (ci := 6) (v := .ref hs) (C := RX6) (T := TX6) (N := 3) hx hb hts iX6 hown hK hP 0 rfl rfl 1 (bl rfl) (hts _ qf_X6_15) (fun _ h => h) rfl dX6_readRock_30 ?_
    refine va_get (D := D) (ci := 5) (v := .int (iZ n)) (C := RX5) (T := TX5) (N := 7) hx hb hts iX5 hown hK hP 1 rfl rfl 3 (bl rfl) (hts _ qf_X6_51) (fun _ h => h) rfl dX6_readRock_33 ?_
    refine lv_istore_n (lv' := [(1, .int (iZ n)), (0, .ref hq)]) hx hb dX6_readRock_36 rfl hl (bl rfl) rfl (fun ls hl => ?_)
    refine lv_aload_n hx hb dX6_readRock_37 rfl (lv_at hl 1 rfl) ?_
    refine lv_iload_n hx hb dX6_readRock_38 rfl (lv_at hl 0 rfl) ?_
    refine CWV (As := [.int (iZ n)]) (rest := []) (wc := _) (wr := []) hx hb hml hown hts hKK hP hD hS hA (x_readNewName l D k hq hr1 tx kw lt tp ln u_58.1.2.1 u_58.1.2.2.1 u_58.1.2.2.2.1 u_58.1.2.2.2.2.1 u_58.1.2.2.2.2.2 fk fp u_58.2.1.2 bf kwf hs hN hf hg n ni lw we nf f g (xEn (tX bf ln) cu) N (by first | with_reducible assumption | exact ⟨⟨by omega, by omega⟩, ⟨by omega, by omega⟩, ⟨by omega, by omega⟩, by omega, ⟨by omega, by omega⟩, ⟨by omega, by omega⟩, by omega, by omega⟩) hbf hkw rx_61 ⟨by omega, by omega⟩ hns) ci_X6_readNewName qm_X6_57 ⟨Nat.le_of_ble_eq_true rfl, Nat.le_of_ble_eq_true rfl⟩ ⟨Nat.le_of_ble_eq_true rfl, Nat.le_of_ble_eq_true rfl⟩ [0, 5, 6, 7, 1, 2, 3, 4] [] rfl rfl rfl rfl rfl (dj rfl) 0 rfl rfl rfl hl.1 rfl (Nat.le_of_ble_eq_true rfl) dX6_readRock_39 (fun u_64 H locs hφ hP hD hS => ?_)
    obtain ⟨p_65, p_66⟩ : ((0 ≤ tp ∧ tp ≤ 900) ∧ (0 ≤ ln ∧ ln ≤ 900) ∧ (0 ≤ u_64.1.2.1 ∧ u_64.1.2.1 ≤ u_64.1.2.2.1) ∧ (u_64.1.2.2.1 ≤ ln) ∧ (0 ≤ u_64.1.2.2.2.1 ∧ u_64.1.2.2.2.1 ≤ 4) ∧ (-2147483648 ≤ u_64.1.2.2.2.2.1 ∧ u_64.1.2.2.2.2.1 < 2147483648) ∧ (-1 ≤ u_64.1.2.2.2.2.2.1 ∧ u_64.1.2.2.2.2.2.1 ≤ 24)) ∧ (((u_64.1.1 : Int) = 1 ∧ ∃ q9 : Int, xNn (tX bf ln) N n (xEn (tX bf ln) cu) = .inr q9 ∧ (xEn (tX bf ln) cu) < q9 ∧ RDX (tX bf ln) q9 u_64.1.2.1 u_64.1.2.2.1 u_64.1.2.2.2.1 u_64.1.2.2.2.2.1 u_64.1.2.2.2.2.2.1 u_64.2.1.2 ∧ xNs u_64.2.2.2 (xUp N n (xNm (tX bf ln) (xEn (tX bf ln) cu))) (n + 1) ∧ u_64.1.2.2.2.2.2.2.1 = fk ∧ u_64.1.2.2.2.2.2.2.2 = fp) ∨ ((u_64.1.1 : Int) = 0 ∧ xNn (tX bf ln) N n (xEn (tX bf ln) cu) = .inl (u_64.1.2.2.2.2.2.2.1, u_64.1.2.2.2.2.2.2.2))) := hφ
    refine W.eq (g2 := F0 m 42 ls [.int (iZ u_64.1.1)]) rfl ?_
    rcases p_66 with ⟨qt_67, cut_67, st_67, lt_67, xt_67, nt_67, ut_67, vt_67⟩ | ⟨qt_67, st_67⟩
    ·
      rw [qt_67]
      obtain ⟨⟨ar_68, br_68⟩, cr_68, dr_68, er_68, fr_68, gr_68, hr_68⟩ := id xt_67
      refine lv_if_eq (tgt := 85) hx hb dX6_readRock_42 rfl (fun c => absurd c (by decide)) (fun _ => ?_)
      refine lv_aload_n hx hb dX6_readRock_45 rfl (lv_at hl 1 rfl) ?_
      refine lv_iconst (v := iZ 1) hx hb dX6_readRock_46 rfl ?_
      refine lv_iconst (v := iZ 0) hx hb dX6_readRock_47 rfl ?_
      refine lv_iconst (v := iZ 0) hx hb dX6_readRock_48 rfl ?_
      refine lv_bipush (v := iZ 20) hx hb dX6_readRock_49 bip_20 ?_
      refine CWV (As := [.int (iZ 1), .int (iZ 0), .int (iZ 0), .int (iZ 20)]) (rest := []) (wc := _) (wr := []) hx hb hml hown hts hKK hP hD hS hA (x_readFact l D k hq hr1 tx kw lt tp ln u_64.1.2.1 u_64.1.2.2.1 u_64.1.2.2.2.1 u_64.1.2.2.2.2.1 u_64.1.2.2.2.2.2.1 u_64.1.2.2.2.2.2.2.1 u_64.1.2.2.2.2.2.2.2 u_64.2.1.2 bf kwf hs hN hf hg n ni lw we u_64.2.2.2 f g cut_67 1 0 0 20 F (by first | with_reducible assumption | exact ⟨⟨by omega, by omega⟩, ⟨by omega, by omega⟩, ⟨by omega, by omega⟩, by omega, ⟨by omega, by omega⟩, ⟨by omega, by omega⟩, by omega, by omega⟩) hbf hkw xt_67 ⟨by omega, by omega⟩ ⟨by omega, by omega⟩ ⟨by omega, by omega⟩ ⟨by omega, by omega⟩ ⟨by omega, by omega⟩) ci_X6_readFact qm_X6_60 ⟨Nat.le_of_ble_eq_true rfl, Nat.le_of_ble_eq_true rfl⟩ ⟨Nat.le_of_ble_eq_true rfl, Nat.le_of_ble_eq_true rfl⟩ [0, 1, 2, 3, 4, 5, 6, 7] [] rfl rfl rfl rfl rfl (dj rfl) 0 rfl rfl rfl hl.1 rfl (Nat.le_of_ble_eq_true rfl) dX6_readRock_51 (fun u_70 H locs hφ hP hD hS => ?_)
      obtain ⟨p_71, p_72⟩ : ((0 ≤ tp ∧ tp ≤ 900) ∧ (0 ≤ ln ∧ ln ≤ 900) ∧ (0 ≤ u_70.1.2.1 ∧ u_70.1.2.1 ≤ u_70.1.2.2.1) ∧ (u_70.1.2.2.1 ≤ ln) ∧ (0 ≤ u_70.1.2.2.2.1 ∧ u_70.1.2.2.2.1 ≤ 4) ∧ (-2147483648 ≤ u_70.1.2.2.2.2.1 ∧ u_70.1.2.2.2.2.1 < 2147483648) ∧ (-1 ≤ u_70.1.2.2.2.2.2.1 ∧ u_70.1.2.2.2.2.2.1 ≤ 24)) ∧ (((u_70.1.1 : Int) = 1 ∧ ∃ (q9 v9 : Int), xFF (tX bf ln) 1 0 0 20 n cut_67 F = .inr (q9, xUp F ((n * 6) + 0) v9) ∧ cut_67 < q9 ∧ RDX (tX bf ln) q9 u_70.1.2.1 u_70.1.2.2.1 u_70.1.2.2.2.1 u_70.1.2.2.2.2.1 u_70.1.2.2.2.2.2.1 u_70.2.1.2 ∧ (0 ≤ v9 ∧ v9 ≤ 20) ∧ u_70.2.2.1 = upd f (iZ ((n * 6) + 0)).toNatClampNeg (iZ v9) ∧ u_70.1.2.2.2.2.2.2.1 = u_64.1.2.2.2.2.2.2.1 ∧ u_70.1.2.2.2.2.2.2.2 = u_64.1.2.2.2.2.2.2.2) ∨ ((u_70.1.1 : Int) = 0 ∧ xFF (tX bf ln) 1 0 0 20 n cut_67 F = .inl (u_70.1.2.2.2.2.2.2.1, u_70.1.2.2.2.2.2.2.2))) := hφ
      refine W.eq (g2 := F0 m 54 ls [.int (iZ u_70.1.1)]) rfl ?_
      rcases p_72 with ⟨qt_73, cut_73, yt_73, st_73, lt_73, xt_73, rt_73, ht_73, ut_73, vt_73⟩ | ⟨qt_73, st_73⟩
      ·
        rw [qt_73]
        obtain ⟨⟨ar_74, br_74⟩, cr_74, dr_74, er_74, fr_74, gr_74, hr_74⟩ := id xt_73
        have hF_75 := xRw.up hF ht_73 ⟨by omega, by omega⟩ ⟨by omega, by omega⟩
        have sk_76 : SKR _ n 0 := SKR.up (w := 0) sk1 ht_73 ⟨by omega, by omega⟩ (by omega)
        refine lv_if_eq (tgt := 85) hx hb dX6_readRock_54 rfl (fun c => absurd c (by decide)) (fun _ => ?_)
        refine lv_aload_n hx hb dX6_readRock_57 rfl (lv_at hl 1 rfl) ?_
        refine lv_iconst (v := iZ 2) hx hb dX6_readRock_58 rfl ?_
        refine lv_iconst (v := iZ 1) hx hb dX6_readRock_59 rfl ?_
        refine lv_iconst (v := iZ 1) hx hb dX6_readRock_60 rfl ?_
        refine lv_bipush (v := iZ 99) hx hb dX6_readRock_61 bip_99 ?_
        refine CWV (As := [.int (iZ 2), .int (iZ 1), .int (iZ 1), .int (iZ 99)]) (rest := []) (wc := _) (wr := []) hx hb hml hown hts hKK hP hD hS hA (x_readFact l D k hq hr1 tx kw lt tp ln u_70.1.2.1 u_70.1.2.2.1 u_70.1.2.2.2.1 u_70.1.2.2.2.2.1 u_70.1.2.2.2.2.2.1 u_70.1.2.2.2.2.2.2.1 u_70.1.2.2.2.2.2.2.2 u_70.2.1.2 bf kwf hs hN hf hg n ni lw we u_64.2.2.2 u_70.2.2.1 g cut_73 2 1 1 99 (xUp F ((n * 6) + 0) yt_73) (by first | with_reducible assumption | exact ⟨⟨by omega, by omega⟩, ⟨by omega, by omega⟩, ⟨by omega, by omega⟩, by omega, ⟨by omega, by omega⟩, ⟨by omega, by omega⟩, by omega, by omega⟩) hbf hkw xt_73 ⟨by omega, by omega⟩ ⟨by omega, by omega⟩ ⟨by omega, by omega⟩ ⟨by omega, by omega⟩ ⟨by omega, by omega⟩) ci_X6_readFact qm_X6_60 ⟨Nat.le_of_ble_eq_true rfl, Nat.le_of_ble_eq_true rfl⟩ ⟨Nat.le_of_ble_eq_true rfl, Nat.le_of_ble_eq_true rfl⟩ [0, 1, 2, 3, 4, 5, 6, 7] [] rfl rfl rfl rfl rfl (dj rfl) 0 rfl rfl rfl hl.1 rfl (Nat.le_of_ble_eq_true rfl) dX6_readRock_63 (fun u_78 H locs hφ hP hD hS => ?_)
        obtain ⟨p_79, p_80⟩ : ((0 ≤ tp ∧ tp ≤ 900) ∧ (0 ≤ ln ∧ ln ≤ 900) ∧ (0 ≤ u_78.1.2.1 ∧ u_78.1.2.1 ≤ u_78.1.2.2.1) ∧ (u_78.1.2.2.1 ≤ ln) ∧ (0 ≤ u_78.1.2.2.2.1 ∧ u_78.1.2.2.2.1 ≤ 4) ∧ (-2147483648 ≤ u_78.1.2.2.2.2.1 ∧ u_78.1.2.2.2.2.1 < 2147483648) ∧ (-1 ≤ u_78.1.2.2.2.2.2.1 ∧ u_78.1.2.2.2.2.2.1 ≤ 24)) ∧ (((u_78.1.1 : Int) = 1 ∧ ∃ (q9 v9 : Int), xFF (tX bf ln) 2 1 1 99 n cut_73 (xUp F ((n * 6) + 0) yt_73) = .inr (q9, xUp (xUp F ((n * 6) + 0) yt_73) ((n * 6) + 1) v9) ∧ cut_73 < q9 ∧ RDX (tX bf ln) q9 u_78.1.2.1 u_78.1.2.2.1 u_78.1.2.2.2.1 u_78.1.2.2.2.2.1 u_78.1.2.2.2.2.2.1 u_78.2.1.2 ∧ (1 ≤ v9 ∧ v9 ≤ 99) ∧ u_78.2.2.1 = upd u_70.2.2.1 (iZ ((n * 6) + 1)).toNatClampNeg (iZ v9) ∧ u_78.1.2.2.2.2.2.2.1 = u_70.1.2.2.2.2.2.2.1 ∧ u_78.1.2.2.2.2.2.2.2 = u_70.1.2.2.2.2.2.2.2) ∨ ((u_78.1.1 : Int) = 0 ∧ xFF (tX bf ln) 2 1 1 99 n cut_73 (xUp F ((n * 6) + 0) yt_73) = .inl (u_78.1.2.2.2.2.2.2.1, u_78.1.2.2.2.2.2.2.2))) := hφ
        refine W.eq (g2 := F0 m 66 ls [.int (iZ u_78.1.1)]) rfl ?_
        rcases p_80 with ⟨qt_81, cut_81, yt_81, st_81, lt_81, xt_81, rt_81, ht_81, ut_81, vt_81⟩ | ⟨qt_81, st_81⟩
        ·
          rw [qt_81]
          obtain ⟨⟨ar_82, br_82⟩, cr_82, dr_82, er_82, fr_82, gr_82, hr_82⟩ := id xt_81
          have hF_83 := xRw.up hF_75 ht_81 ⟨by omega, by omega⟩ ⟨by omega, by omega⟩
          have sk_84 : SKR _ n 1 := SKR.up (w := 1) sk_76 ht_81 ⟨by omega, by omega⟩ (by omega)
          refine lv_if_eq (tgt := 85) hx hb dX6_readRock_66 rfl (fun c => absurd c (by decide)) (fun _ => ?_)
          refine lv_aload_n hx hb dX6_readRock_69 rfl (lv_at hl 1 rfl) ?_
          refine lv_iconst (v := iZ 3) hx hb dX6_readRock_70 rfl ?_
          refine lv_iconst (v := iZ 2) hx hb dX6_readRock_71 rfl ?_
          refine lv_iconst (v := iZ 0) hx hb dX6_readRock_72 rfl ?_
          refine lv_bipush (v := iZ 11) hx hb dX6_readRock_73 bip_11 ?_
          refine CWV (As := [.int (iZ 3), .int (iZ 2), .int (iZ 0), .int (iZ 11)]) (rest := []) (wc := _) (wr := []) hx hb hml hown hts hKK hP hD hS hA (x_readFact l D k hq hr1 tx kw lt tp ln u_78.1.2.1 u_78.1.2.2.1 u_78.1.2.2.2.1 u_78.1.2.2.2.2.1 u_78.1.2.2.2.2.2.1 u_78.1.2.2.2.2.2.2.1 u_78.1.2.2.2.2.2.2.2 u_78.2.1.2 bf kwf hs hN hf hg n ni lw we u_64.2.2.2 u_78.2.2.1 g cut_81 3 2 0 11 (xUp (xUp F ((n * 6) + 0) yt_73) ((n * 6) + 1) yt_81) (by first | with_reducible assumption | exact ⟨⟨by omega, by omega⟩, ⟨by omega, by omega⟩, ⟨by omega, by omega⟩, by omega, ⟨by omega, by omega⟩, ⟨by omega, by omega⟩, by omega, by omega⟩) hbf hkw xt_81 ⟨by omega, by omega⟩ ⟨by omega, by omega⟩ ⟨by omega, by omega⟩ ⟨by omega, by omega⟩ ⟨by omega, by omega⟩) ci_X6_readFact qm_X6_60 ⟨Nat.le_of_ble_eq_true rfl, Nat.le_of_ble_eq_true rfl⟩ ⟨Nat.le_of_ble_eq_true rfl, Nat.le_of_ble_eq_true rfl⟩ [0, 1, 2, 3, 4, 5, 6, 7] [] rfl rfl rfl rfl rfl (dj rfl) 0 rfl rfl rfl hl.1 rfl (Nat.le_of_ble_eq_true rfl) dX6_readRock_75 (fun u_86 H locs hφ hP hD hS => ?_)
          obtain ⟨p_87, p_88⟩ : ((0 ≤ tp ∧ tp ≤ 900) ∧ (0 ≤ ln ∧ ln ≤ 900) ∧ (0 ≤ u_86.1.2.1 ∧ u_86.1.2.1 ≤ u_86.1.2.2.1) ∧ (u_86.1.2.2.1 ≤ ln) ∧ (0 ≤ u_86.1.2.2.2.1 ∧ u_86.1.2.2.2.1 ≤ 4) ∧ (-2147483648 ≤ u_86.1.2.2.2.2.1 ∧ u_86.1.2.2.2.2.1 < 2147483648) ∧ (-1 ≤ u_86.1.2.2.2.2.2.1 ∧ u_86.1.2.2.2.2.2.1 ≤ 24)) ∧ (((u_86.1.1 : Int) = 1 ∧ ∃ (q9 v9 : Int), xFF (tX bf ln) 3 2 0 11 n cut_81 (xUp (xUp F ((n * 6) + 0) yt_73) ((n * 6) + 1) yt_81) = .inr (q9, xUp (xUp (xUp F ((n * 6) + 0) yt_73) ((n * 6) + 1) yt_81) ((n * 6) + 2) v9) ∧ cut_81 < q9 ∧ RDX (tX bf ln) q9 u_86.1.2.1 u_86.1.2.2.1 u_86.1.2.2.2.1 u_86.1.2.2.2.2.1 u_86.1.2.2.2.2.2.1 u_86.2.1.2 ∧ (0 ≤ v9 ∧ v9 ≤ 11) ∧ u_86.2.2.1 = upd u_78.2.2.1 (iZ ((n * 6) + 2)).toNatClampNeg (iZ v9) ∧ u_86.1.2.2.2.2.2.2.1 = u_78.1.2.2.2.2.2.2.1 ∧ u_86.1.2.2.2.2.2.2.2 = u_78.1.2.2.2.2.2.2.2) ∨ ((u_86.1.1 : Int) = 0 ∧ xFF (tX bf ln) 3 2 0 11 n cut_81 (xUp (xUp F ((n * 6) + 0) yt_73) ((n * 6) + 1) yt_81) = .inl (u_86.1.2.2.2.2.2.2.1, u_86.1.2.2.2.2.2.2.2))) := hφ
          refine W.eq (g2 := F0 m 78 ls [.int (iZ u_86.1.1)]) rfl ?_
          rcases p_88 with ⟨qt_89, cut_89, yt_89, st_89, lt_89, xt_89, rt_89, ht_89, ut_89, vt_89⟩ | ⟨qt_89, st_89⟩
          ·
            rw [qt_89]
            obtain ⟨⟨ar_90, br_90⟩, cr_90, dr_90, er_90, fr_90, gr_90, hr_90⟩ := id xt_89
            have hF_91 := xRw.up hF_83 ht_89 ⟨by omega, by omega⟩ ⟨by omega, by omega⟩
            have sk_92 : SKR _ n 1 := SKR.up (w := 2) sk_84 ht_89 ⟨by omega, by omega⟩ (by omega)
            refine lv_if_eq (tgt := 85) hx hb dX6_readRock_78 rfl (fun c => absurd c (by decide)) (fun _ => ?_)
            refine lv_iconst (v := iZ 1) hx hb dX6_readRock_81 rfl ?_
            refine lv_goto (tgt := 86) hx hb dX6_readRock_82 rfl ?_
            refine lv_istore_n (lv' := [(2, .int (iZ 1)), (1, .int (iZ n)), (0, .ref hq)]) hx hb dX6_readRock_86 rfl hl (bl rfl) rfl (fun ls hl => ?_)
            refine lv_iload_n hx hb dX6_readRock_87 rfl (lv_at hl 0 rfl) ?_
            refine lv_if_eq (tgt := 112) hx hb dX6_readRock_88 rfl (fun c => absurd c (by decide)) (fun _ => ?_)
            have eq3 := xRock_3 (T := tX bf ln) (N := N) (F := F) (n := n) (we := we) (p := cu) (show ¬ 6 ≤ n from (by omega)) st_67 st_73 st_81 st_89
            refine lv_aload_n hx hb dX6_readRock_91 rfl (lv_at hl 2 rfl) ?_
            refine va_get (D := D) (ci := 6) (v := .ref hr1) (C := RX6) (T := TX6) (N := 3) hx hb hts iX6 hown hK hP 0 rfl rfl 0 (bl rfl) (hts _ qf_X6_9) (fun _ h => h) rfl dX6_readRock_92 ?_
            refine va_get (D := D) (ci := 4) (v := .int (iZ u_86.1.2.2.2.2.2.1)) (C := RX4) (T := TX4) (N := 12) hx hb hts iX4 hown hK hP 1 rfl rfl 8 (bl rfl) (hts _ qf_X6_34) (fun _ h => h) rfl dX6_readRock_95 ?_
            refine lv_iconst (v := iZ 4) hx hb dX6_readRock_98 rfl ?_
            refine lv_icmp_ne (tgt := 112) hx hb dX6_readRock_99 rfl (fun c_95 => ?_) (fun c_95 => ?_)
            ·
              have c_95 := mt (zeq (x := iZ u_86.1.2.2.2.2.2.1) (y := iZ 4) rfl rfl ⟨by omega, by omega⟩ wn_4).mpr c_95
              exact HJ112 u_86.1.2.1 u_86.1.2.2.1 u_86.1.2.2.2.1 u_86.1.2.2.2.2.1 u_86.1.2.2.2.2.2.1 u_86.2.1.2 u_86.1.2.2.2.2.2.2.1 u_86.1.2.2.2.2.2.2.2 u_64.2.2.2 u_86.2.2.1 cut_89 (xUp (xUp (xUp F ((n * 6) + 0) yt_73) ((n * 6) + 1) yt_81) ((n * 6) + 2) yt_89) _ _ _ (show (0 ≤ tp ∧ tp ≤ 900) ∧ (0 ≤ ln ∧ ln ≤ 900) ∧ (0 ≤ u_86.1.2.1 ∧ u_86.1.2.1 ≤ u_86.1.2.2.1) ∧ (u_86.1.2.2.1 ≤ ln) ∧ (0 ≤ u_86.1.2.2.2.1 ∧ u_86.1.2.2.2.1 ≤ 4) ∧ (-2147483648 ≤ u_86.1.2.2.2.2.1 ∧ u_86.1.2.2.2.2.1 < 2147483648) ∧ (-1 ≤ u_86.1.2.2.2.2.2.1 ∧ u_86.1.2.2.2.2.2.1 ≤ 24) from (by first | with_reducible assumption | exact ⟨⟨by omega, by omega⟩, ⟨by omega, by omega⟩, ⟨by omega, by omega⟩, by omega, ⟨by omega, by omega⟩, ⟨by omega, by omega⟩, by omega, by omega⟩)) (show RDX (tX bf ln) cut_89 u_86.1.2.1 u_86.1.2.2.1 u_86.1.2.2.2.1 u_86.1.2.2.2.2.1 u_86.1.2.2.2.2.2.1 u_86.2.1.2 from xt_89) (show cu < cut_89 from (by omega)) (show xRw u_86.2.2.1 (xUp (xUp (xUp F ((n * 6) + 0) yt_73) ((n * 6) + 1) yt_81) ((n * 6) + 2) yt_89) 36 from hF_91) (show xNs u_64.2.2.2 (xUp N n (xNm (tX bf ln) (xEn (tX bf ln) cu))) (n + 1) from nt_67) (show SKR u_86.2.2.1 n 1 from sk_92) (show u_86.1.2.2.2.2.2.2.1 = fk ∧ u_86.1.2.2.2.2.2.2.2 = fp from ⟨by omega, by omega⟩) (show xRock (tX bf ln) N n we F cu = xR4 (tX bf ln) n we cut_89 (xUp (xUp (xUp F ((n * 6) + 0) yt_73) ((n * 6) + 1) yt_81) ((n * 6) + 2) yt_89) from (eq3.trans (xR3_r (xOF_0 (show ¬ xKw (tX bf ln) cut_89 = 4 from (by omega)))))) (show 0 ≤ n ∧ n < 6 from ⟨by omega, by omega⟩) (hP.sub [0, 1, 2, 3, 4, 5, 6, 7] rfl) (hD.sub [0, 1, 2, 3, 4, 5, 6, 7] rfl rfl) hS (lv_sub hl [0, 1, 2] rfl)
            ·
              have c_95 := (zeq (x := iZ u_86.1.2.2.2.2.2.1) (y := iZ 4) rfl rfl ⟨by omega, by omega⟩ wn_4).mp c_95
              refine lv_aload_n hx hb dX6_readRock_102 rfl (lv_at hl 2 rfl) ?_
              refine lv_iconst (v := iZ 4) hx hb dX6_readRock_103 rfl ?_
              refine lv_iconst (v := iZ 3) hx hb dX6_readRock_104 rfl ?_
              refine lv_iconst (v := iZ 0) hx hb dX6_readRock_105 rfl ?_
              refine lv_bipush (v := iZ 9) hx hb dX6_readRock_106 bip_9 ?_
              refine CWV (As := [.int (iZ 4), .int (iZ 3), .int (iZ 0), .int (iZ 9)]) (rest := []) (wc := _) (wr := []) hx hb hml hown hts hKK hP hD hS hA (x_readFact l D k hq hr1 tx kw lt tp ln u_86.1.2.1 u_86.1.2.2.1 u_86.1.2.2.2.1 u_86.1.2.2.2.2.1 u_86.1.2.2.2.2.2.1 u_86.1.2.2.2.2.2.2.1 u_86.1.2.2.2.2.2.2.2 u_86.2.1.2 bf kwf hs hN hf hg n ni lw we u_64.2.2.2 u_86.2.2.1 g cut_89 4 3 0 9 (xUp (xUp (xUp F ((n * 6) + 0) yt_73) ((n * 6) + 1) yt_81) ((n * 6) + 2) yt_89) (by first | with_reducible assumption | exact ⟨⟨by omega, by omega⟩, ⟨by omega, by omega⟩, ⟨by omega, by omega⟩, by omega, ⟨by omega, by omega⟩, ⟨by omega, by omega⟩, by omega, by omega⟩) hbf hkw xt_89 ⟨by omega, by omega⟩ ⟨by omega, by omega⟩ ⟨by omega, by omega⟩ ⟨by omega, by omega⟩ ⟨by omega, by omega⟩) ci_X6_readFact qm_X6_60 ⟨Nat.le_of_ble_eq_true rfl, Nat.le_of_ble_eq_true rfl⟩ ⟨Nat.le_of_ble_eq_true rfl, Nat.le_of_ble_eq_true rfl⟩ [0, 1, 2, 3, 4, 5, 6, 7] [] rfl rfl rfl rfl rfl (dj rfl) 0 rfl rfl rfl hl.1 rfl (Nat.le_of_ble_eq_true rfl) dX6_readRock_108 (fun u_96 H locs hφ hP hD hS => ?_)
              obtain ⟨p_97, p_98⟩ : ((0 ≤ tp ∧ tp ≤ 900) ∧ (0 ≤ ln ∧ ln ≤ 900) ∧ (0 ≤ u_96.1.2.1 ∧ u_96.1.2.1 ≤ u_96.1.2.2.1) ∧ (u_96.1.2.2.1 ≤ ln) ∧ (0 ≤ u_96.1.2.2.2.1 ∧ u_96.1.2.2.2.1 ≤ 4) ∧ (-2147483648 ≤ u_96.1.2.2.2.2.1 ∧ u_96.1.2.2.2.2.1 < 2147483648) ∧ (-1 ≤ u_96.1.2.2.2.2.2.1 ∧ u_96.1.2.2.2.2.2.1 ≤ 24)) ∧ (((u_96.1.1 : Int) = 1 ∧ ∃ (q9 v9 : Int), xFF (tX bf ln) 4 3 0 9 n cut_89 (xUp (xUp (xUp F ((n * 6) + 0) yt_73) ((n * 6) + 1) yt_81) ((n * 6) + 2) yt_89) = .inr (q9, xUp (xUp (xUp (xUp F ((n * 6) + 0) yt_73) ((n * 6) + 1) yt_81) ((n * 6) + 2) yt_89) ((n * 6) + 3) v9) ∧ cut_89 < q9 ∧ RDX (tX bf ln) q9 u_96.1.2.1 u_96.1.2.2.1 u_96.1.2.2.2.1 u_96.1.2.2.2.2.1 u_96.1.2.2.2.2.2.1 u_96.2.1.2 ∧ (0 ≤ v9 ∧ v9 ≤ 9) ∧ u_96.2.2.1 = upd u_86.2.2.1 (iZ ((n * 6) + 3)).toNatClampNeg (iZ v9) ∧ u_96.1.2.2.2.2.2.2.1 = u_86.1.2.2.2.2.2.2.1 ∧ u_96.1.2.2.2.2.2.2.2 = u_86.1.2.2.2.2.2.2.2) ∨ ((u_96.1.1 : Int) = 0 ∧ xFF (tX bf ln) 4 3 0 9 n cut_89 (xUp (xUp (xUp F ((n * 6) + 0) yt_73) ((n * 6) + 1) yt_81) ((n * 6) + 2) yt_89) = .inl (u_96.1.2.2.2.2.2.2.1, u_96.1.2.2.2.2.2.2.2))) := hφ
              refine W.eq (g2 := F0 m 111 ls [.int (iZ u_96.1.1)]) rfl ?_
              rcases p_98 with ⟨qt_99, cut_99, yt_99, st_99, lt_99, xt_99, rt_99, ht_99, ut_99, vt_99⟩ | ⟨qt_99, st_99⟩
              ·
                rw [qt_99]
                obtain ⟨⟨ar_100, br_100⟩, cr_100, dr_100, er_100, fr_100, gr_100, hr_100⟩ := id xt_99
                have hF_101 := xRw.up hF_91 ht_99 ⟨by omega, by omega⟩ ⟨by omega, by omega⟩
                have sk_102 : SKR _ n 1 := SKR.up (w := 3) sk_92 ht_99 ⟨by omega, by omega⟩ (by omega)
                refine lv_istore_n (lv' := [(2, .int (iZ 1)), (1, .int (iZ n)), (0, .ref hq)]) hx hb dX6_readRock_111 rfl hl (bl rfl) rfl (fun ls hl => ?_)
                exact HJ112 u_96.1.2.1 u_96.1.2.2.1 u_96.1.2.2.2.1 u_96.1.2.2.2.2.1 u_96.1.2.2.2.2.2.1 u_96.2.1.2 u_96.1.2.2.2.2.2.2.1 u_96.1.2.2.2.2.2.2.2 u_64.2.2.2 u_96.2.2.1 cut_99 (xUp (xUp (xUp (xUp F ((n * 6) + 0) yt_73) ((n * 6) + 1) yt_81) ((n * 6) + 2) yt_89) ((n * 6) + 3) yt_99) _ _ _ (show (0 ≤ tp ∧ tp ≤ 900) ∧ (0 ≤ ln ∧ ln ≤ 900) ∧ (0 ≤ u_96.1.2.1 ∧ u_96.1.2.1 ≤ u_96.1.2.2.1) ∧ (u_96.1.2.2.1 ≤ ln) ∧ (0 ≤ u_96.1.2.2.2.1 ∧ u_96.1.2.2.2.1 ≤ 4) ∧ (-2147483648 ≤ u_96.1.2.2.2.2.1 ∧ u_96.1.2.2.2.2.1 < 2147483648) ∧ (-1 ≤ u_96.1.2.2.2.2.2.1 ∧ u_96.1.2.2.2.2.2.1 ≤ 24) from (by first | with_reducible assumption | exact ⟨⟨by omega, by omega⟩, ⟨by omega, by omega⟩, ⟨by omega, by omega⟩, by omega, ⟨by omega, by omega⟩, ⟨by omega, by omega⟩, by omega, by omega⟩)) (show RDX (tX bf ln) cut_99 u_96.1.2.1 u_96.1.2.2.1 u_96.1.2.2.2.1 u_96.1.2.2.2.2.1 u_96.1.2.2.2.2.2.1 u_96.2.1.2 from xt_99) (show cu < cut_99 from (by omega)) (show xRw u_96.2.2.1 (xUp (xUp (xUp (xUp F ((n * 6) + 0) yt_73) ((n * 6) + 1) yt_81) ((n * 6) + 2) yt_89) ((n * 6) + 3) yt_99) 36 from hF_101) (show xNs u_64.2.2.2 (xUp N n (xNm (tX bf ln) (xEn (tX bf ln) cu))) (n + 1) from nt_67) (show SKR u_96.2.2.1 n 1 from sk_102) (show u_96.1.2.2.2.2.2.2.1 = fk ∧ u_96.1.2.2.2.2.2.2.2 = fp from ⟨by omega, by omega⟩) (show xRock (tX bf ln) N n we F cu = xR4 (tX bf ln) n we cut_99 (xUp (xUp (xUp (xUp F ((n * 6) + 0) yt_73) ((n * 6) + 1) yt_81) ((n * 6) + 2) yt_89) ((n * 6) + 3) yt_99) from (eq3.trans (xR3_r (xOF_1 (show xKw (tX bf ln) cut_89 = 4 from (by omega)) st_99)))) (show 0 ≤ n ∧ n < 6 from ⟨by omega, by omega⟩) (hP.sub [0, 1, 2, 3, 4, 5, 6, 7] rfl) (hD.sub [0, 1, 2, 3, 4, 5, 6, 7] rfl rfl) hS (lv_sub hl [0, 1, 2] rfl)
              ·
                rw [qt_99]
                refine lv_istore_n (lv' := [(2, .int (iZ 0)), (1, .int (iZ n)), (0, .ref hq)]) hx hb dX6_readRock_111 rfl hl (bl rfl) rfl (fun ls hl => ?_)
                refine lv_iload_n hx hb dX6_readRock_112 rfl (lv_at hl 0 rfl) ?_
                refine lv_if_eq (tgt := 164) hx hb dX6_readRock_113 rfl (fun _ => ?_) (fun c => absurd (by decide) c)
                refine lv_iload_n hx hb dX6_readRock_164 rfl (lv_at hl 0 rfl) ?_
                refine lv_if_eq (tgt := 202) hx hb dX6_readRock_165 rfl (fun _ => ?_) (fun c => absurd (by decide) c)
                refine lv_iload_n hx hb dX6_readRock_202 rfl (lv_at hl 0 rfl) ?_
                refine lv_if_eq (tgt := 218) hx hb dX6_readRock_203 rfl (fun _ => ?_) (fun c => absurd (by decide) c)
                refine lv_iconst (v := iZ 0) hx hb dX6_readRock_218 rfl ?_
                exact EWz hx hb hr hlocks hS ((0, u_96.1.2.1, u_96.1.2.2.1, u_96.1.2.2.2.1, u_96.1.2.2.2.2.1, u_96.1.2.2.2.2.2.1, u_96.1.2.2.2.2.2.2.1, u_96.1.2.2.2.2.2.2.2, n, we), (0, u_96.2.1.2), u_96.2.2.1, u_64.2.2.2) rfl rfl ⟨(show (0 ≤ tp ∧ tp ≤ 900) ∧ (0 ≤ ln ∧ ln ≤ 900) ∧ (0 ≤ u_96.1.2.1 ∧ u_96.1.2.1 ≤ u_96.1.2.2.1) ∧ (u_96.1.2.2.1 ≤ ln) ∧ (0 ≤ u_96.1.2.2.2.1 ∧ u_96.1.2.2.2.1 ≤ 4) ∧ (-2147483648 ≤ u_96.1.2.2.2.2.1 ∧ u_96.1.2.2.2.2.1 < 2147483648) ∧ (-1 ≤ u_96.1.2.2.2.2.2.1 ∧ u_96.1.2.2.2.2.2.1 ≤ 24) from (by first | with_reducible assumption | exact ⟨⟨by omega, by omega⟩, ⟨by omega, by omega⟩, ⟨by omega, by omega⟩, by omega, ⟨by omega, by omega⟩, ⟨by omega, by omega⟩, by omega, by omega⟩)), (show -2147483648 ≤ we ∧ we < 2147483648 from ⟨by omega, by omega⟩), (show ((0 : Int) = 1 ∧ ∃ (q9 : Int) (F9 : Int → Int), xRock (tX bf ln) N n we F cu = .inr (q9, we, F9) ∧ cu < q9 ∧ RDX (tX bf ln) q9 u_96.1.2.1 u_96.1.2.2.1 u_96.1.2.2.2.1 u_96.1.2.2.2.2.1 u_96.1.2.2.2.2.2.1 u_96.2.1.2 ∧ xRw u_96.2.2.1 F9 36 ∧ xNs u_64.2.2.2 (xUp N n (xNm (tX bf ln) (xEn (tX bf ln) cu))) n ∧ n = n + 1 ∧ (0 ≤ n ∧ n ≤ 6) ∧ SKZ u_96.2.2.1 n ∧ u_96.1.2.2.2.2.2.2.1 = fk ∧ u_96.1.2.2.2.2.2.2.2 = fp) ∨ ((0 : Int) = 0 ∧ xRock (tX bf ln) N n we F cu = .inl (u_96.1.2.2.2.2.2.2.1, u_96.1.2.2.2.2.2.2.2)) from (Or.inr ⟨rfl, (eq3.trans (xR3_l (xOF_1 (show xKw (tX bf ln) cut_89 = 4 from (by omega)) st_99)))⟩))⟩ (hP.sub [0, 1, 2, 3, 4, 5, 6, 7] rfl) (hD.sub [0, 1, 2, 3, 4, 5, 6, 7] rfl rfl) dX6_readRock_219
          ·
            rw [qt_89]
            refine lv_if_eq (tgt := 85) hx hb dX6_readRock_78 rfl (fun _ => ?_) (fun c => absurd (by decide) c)
            refine lv_iconst (v := iZ 0) hx hb dX6_readRock_85 rfl ?_
            refine lv_istore_n (lv' := [(2, .int (iZ 0)), (1, .int (iZ n)), (0, .ref hq)]) hx hb dX6_readRock_86 rfl hl (bl rfl) rfl (fun ls hl => ?_)
            refine lv_iload_n hx hb dX6_readRock_87 rfl (lv_at hl 0 rfl) ?_
            refine lv_if_eq (tgt := 112) hx hb dX6_readRock_88 rfl (fun _ => ?_) (fun c => absurd (by decide) c)
            refine lv_iload_n hx hb dX6_readRock_112 rfl (lv_at hl 0 rfl) ?_
            refine lv_if_eq (tgt := 164) hx hb dX6_readRock_113 rfl (fun _ => ?_) (fun c => absurd (by decide) c)
            refine lv_iload_n hx hb dX6_readRock_164 rfl (lv_at hl 0 rfl) ?_
            refine lv_if_eq (tgt := 202) hx hb dX6_readRock_165 rfl (fun _ => ?_) (fun c => absurd (by decide) c)
            refine lv_iload_n hx hb dX6_readRock_202 rfl (lv_at hl 0 rfl) ?_
            refine lv_if_eq (tgt := 218) hx hb dX6_readRock_203 rfl (fun _ => ?_) (fun c => absurd (by decide) c)
            refine lv_iconst (v := iZ 0) hx hb dX6_readRock_218 rfl ?_
            exact EWz hx hb hr hlocks hS ((0, u_86.1.2.1, u_86.1.2.2.1, u_86.1.2.2.2.1, u_86.1.2.2.2.2.1, u_86.1.2.2.2.2.2.1, u_86.1.2.2.2.2.2.2.1, u_86.1.2.2.2.2.2.2.2, n, we), (0, u_86.2.1.2), u_86.2.2.1, u_64.2.2.2) rfl rfl ⟨(show (0 ≤ tp ∧ tp ≤ 900) ∧ (0 ≤ ln ∧ ln ≤ 900) ∧ (0 ≤ u_86.1.2.1 ∧ u_86.1.2.1 ≤ u_86.1.2.2.1) ∧ (u_86.1.2.2.1 ≤ ln) ∧ (0 ≤ u_86.1.2.2.2.1 ∧ u_86.1.2.2.2.1 ≤ 4) ∧ (-2147483648 ≤ u_86.1.2.2.2.2.1 ∧ u_86.1.2.2.2.2.1 < 2147483648) ∧ (-1 ≤ u_86.1.2.2.2.2.2.1 ∧ u_86.1.2.2.2.2.2.1 ≤ 24) from (by first | with_reducible assumption | exact ⟨⟨by omega, by omega⟩, ⟨by omega, by omega⟩, ⟨by omega, by omega⟩, by omega, ⟨by omega, by omega⟩, ⟨by omega, by omega⟩, by omega, by omega⟩)), (show -2147483648 ≤ we ∧ we < 2147483648 from ⟨by omega, by omega⟩), (show ((0 : Int) = 1 ∧ ∃ (q9 : Int) (F9 : Int → Int), xRock (tX bf ln) N n we F cu = .inr (q9, we, F9) ∧ cu < q9 ∧ RDX (tX bf ln) q9 u_86.1.2.1 u_86.1.2.2.1 u_86.1.2.2.2.1 u_86.1.2.2.2.2.1 u_86.1.2.2.2.2.2.1 u_86.2.1.2 ∧ xRw u_86.2.2.1 F9 36 ∧ xNs u_64.2.2.2 (xUp N n (xNm (tX bf ln) (xEn (tX bf ln) cu))) n ∧ n = n + 1 ∧ (0 ≤ n ∧ n ≤ 6) ∧ SKZ u_86.2.2.1 n ∧ u_86.1.2.2.2.2.2.2.1 = fk ∧ u_86.1.2.2.2.2.2.2.2 = fp) ∨ ((0 : Int) = 0 ∧ xRock (tX bf ln) N n we F cu = .inl (u_86.1.2.2.2.2.2.2.1, u_86.1.2.2.2.2.2.2.2)) from (Or.inr ⟨rfl, xRock_l3 (by omega) st_67 st_73 st_81 st_89⟩))⟩ (hP.sub [0, 1, 2, 3, 4, 5, 6, 7] rfl) (hD.sub [0, 1, 2, 3, 4, 5, 6, 7] rfl rfl) dX6_readRock_219
        ·
          rw [qt_81]
          refine lv_if_eq (tgt := 85) hx hb dX6_readRock_66 rfl (fun _ => ?_) (fun c => absurd (by decide) c)
          refine lv_iconst (v := iZ 0) hx hb dX6_readRock_85 rfl ?_
          refine lv_istore_n (lv' := [(2, .int (iZ 0)), (1, .int (iZ n)), (0, .ref hq)]) hx hb dX6_readRock_86 rfl hl (bl rfl) rfl (fun ls hl => ?_)
          refine lv_iload_n hx hb dX6_readRock_87 rfl (lv_at hl 0 rfl) ?_
          refine lv_if_eq (tgt := 112) hx hb dX6_readRock_88 rfl (fun _ => ?_) (fun c => absurd (by decide) c)
          refine lv_iload_n hx hb dX6_readRock_112 rfl (lv_at hl 0 rfl) ?_
          refine lv_if_eq (tgt := 164) hx hb dX6_readRock_113 rfl (fun _ => ?_) (fun c => absurd (by decide) c)
          refine lv_iload_n hx hb dX6_readRock_164 rfl (lv_at hl 0 rfl) ?_
          refine lv_if_eq (tgt := 202) hx hb dX6_readRock_165 rfl (fun _ => ?_) (fun c => absurd (by decide) c)
          refine lv_iload_n hx hb dX6_readRock_202 rfl (lv_at hl 0 rfl) ?_
          refine lv_if_eq (tgt := 218) hx hb dX6_readRock_203 rfl (fun _ => ?_) (fun c => absurd (by decide) c)
          refine lv_iconst (v := iZ 0) hx hb dX6_readRock_218 rfl ?_
          exact EWz hx hb hr hlocks hS ((0, u_78.1.2.1, u_78.1.2.2.1, u_78.1.2.2.2.1, u_78.1.2.2.2.2.1, u_78.1.2.2.2.2.2.1, u_78.1.2.2.2.2.2.2.1, u_78.1.2.2.2.2.2.2.2, n, we), (0, u_78.2.1.2), u_78.2.2.1, u_64.2.2.2) rfl rfl ⟨(show (0 ≤ tp ∧ tp ≤ 900) ∧ (0 ≤ ln ∧ ln ≤ 900) ∧ (0 ≤ u_78.1.2.1 ∧ u_78.1.2.1 ≤ u_78.1.2.2.1) ∧ (u_78.1.2.2.1 ≤ ln) ∧ (0 ≤ u_78.1.2.2.2.1 ∧ u_78.1.2.2.2.1 ≤ 4) ∧ (-2147483648 ≤ u_78.1.2.2.2.2.1 ∧ u_78.1.2.2.2.2.1 < 2147483648) ∧ (-1 ≤ u_78.1.2.2.2.2.2.1 ∧ u_78.1.2.2.2.2.2.1 ≤ 24) from (by first | with_reducible assumption | exact ⟨⟨by omega, by omega⟩, ⟨by omega, by omega⟩, ⟨by omega, by omega⟩, by omega, ⟨by omega, by omega⟩, ⟨by omega, by omega⟩, by omega, by omega⟩)), (show -2147483648 ≤ we ∧ we < 2147483648 from ⟨by omega, by omega⟩), (show ((0 : Int) = 1 ∧ ∃ (q9 : Int) (F9 : Int → Int), xRock (tX bf ln) N n we F cu = .inr (q9, we, F9) ∧ cu < q9 ∧ RDX (tX bf ln) q9 u_78.1.2.1 u_78.1.2.2.1 u_78.1.2.2.2.1 u_78.1.2.2.2.2.1 u_78.1.2.2.2.2.2.1 u_78.2.1.2 ∧ xRw u_78.2.2.1 F9 36 ∧ xNs u_64.2.2.2 (xUp N n (xNm (tX bf ln) (xEn (tX bf ln) cu))) n ∧ n = n + 1 ∧ (0 ≤ n ∧ n ≤ 6) ∧ SKZ u_78.2.2.1 n ∧ u_78.1.2.2.2.2.2.2.1 = fk ∧ u_78.1.2.2.2.2.2.2.2 = fp) ∨ ((0 : Int) = 0 ∧ xRock (tX bf ln) N n we F cu = .inl (u_78.1.2.2.2.2.2.2.1, u_78.1.2.2.2.2.2.2.2)) from (Or.inr ⟨rfl, xRock_l2 (by omega) st_67 st_73 st_81⟩))⟩ (hP.sub [0, 1, 2, 3, 4, 5, 6, 7] rfl) (hD.sub [0, 1, 2, 3, 4, 5, 6, 7] rfl rfl) dX6_readRock_219
      ·
        rw [qt_73]
        refine lv_if_eq (tgt := 85) hx hb dX6_readRock_54 rfl (fun _ => ?_) (fun c => absurd (by decide) c)
        refine lv_iconst (v := iZ 0) hx hb dX6_readRock_85 rfl ?_
        refine lv_istore_n (lv' := [(2, .int (iZ 0)), (1, .int (iZ n)), (0, .ref hq)]) hx hb dX6_readRock_86 rfl hl (bl rfl) rfl (fun ls hl => ?_)
        refine lv_iload_n hx hb dX6_readRock_87 rfl (lv_at hl 0 rfl) ?_
        refine lv_if_eq (tgt := 112) hx hb dX6_readRock_88 rfl (fun _ => ?_) (fun c => absurd (by decide) c)
        refine lv_iload_n hx hb dX6_readRock_112 rfl (lv_at hl 0 rfl) ?_
        refine lv_if_eq (tgt := 164) hx hb dX6_readRock_113 rfl (fun _ => ?_) (fun c => absurd (by decide) c)
        refine lv_iload_n hx hb dX6_readRock_164 rfl (lv_at hl 0 rfl) ?_
        refine lv_if_eq (tgt := 202) hx hb dX6_readRock_165 rfl (fun _ => ?_) (fun c => absurd (by decide) c)
        refine lv_iload_n hx hb dX6_readRock_202 rfl (lv_at hl 0 rfl) ?_
        refine lv_if_eq (tgt := 218) hx hb dX6_readRock_203 rfl (fun _ => ?_) (fun c => absurd (by decide) c)
        refine lv_iconst (v := iZ 0) hx hb dX6_readRock_218 rfl ?_
        exact EWz hx hb hr hlocks hS ((0, u_70.1.2.1, u_70.1.2.2.1, u_70.1.2.2.2.1, u_70.1.2.2.2.2.1, u_70.1.2.2.2.2.2.1, u_70.1.2.2.2.2.2.2.1, u_70.1.2.2.2.2.2.2.2, n, we), (0, u_70.2.1.2), u_70.2.2.1, u_64.2.2.2) rfl rfl ⟨(show (0 ≤ tp ∧ tp ≤ 900) ∧ (0 ≤ ln ∧ ln ≤ 900) ∧ (0 ≤ u_70.1.2.1 ∧ u_70.1.2.1 ≤ u_70.1.2.2.1) ∧ (u_70.1.2.2.1 ≤ ln) ∧ (0 ≤ u_70.1.2.2.2.1 ∧ u_70.1.2.2.2.1 ≤ 4) ∧ (-2147483648 ≤ u_70.1.2.2.2.2.1 ∧ u_70.1.2.2.2.2.1 < 2147483648) ∧ (-1 ≤ u_70.1.2.2.2.2.2.1 ∧ u_70.1.2.2.2.2.2.1 ≤ 24) from (by first | with_reducible assumption | exact ⟨⟨by omega, by omega⟩, ⟨by omega, by omega⟩, ⟨by omega, by omega⟩, by omega, ⟨by omega, by omega⟩, ⟨by omega, by omega⟩, by omega, by omega⟩)), (show -2147483648 ≤ we ∧ we < 2147483648 from ⟨by omega, by omega⟩), (show ((0 : Int) = 1 ∧ ∃ (q9 : Int) (F9 : Int → Int), xRock (tX bf ln) N n we F cu = .inr (q9, we, F9) ∧ cu < q9 ∧ RDX (tX bf ln) q9 u_70.1.2.1 u_70.1.2.2.1 u_70.1.2.2.2.1 u_70.1.2.2.2.2.1 u_70.1.2.2.2.2.2.1 u_70.2.1.2 ∧ xRw u_70.2.2.1 F9 36 ∧ xNs u_64.2.2.2 (xUp N n (xNm (tX bf ln) (xEn (tX bf ln) cu))) n ∧ n = n + 1 ∧ (0 ≤ n ∧ n ≤ 6) ∧ SKZ u_70.2.2.1 n ∧ u_70.1.2.2.2.2.2.2.1 = fk ∧ u_70.1.2.2.2.2.2.2.2 = fp) ∨ ((0 : Int) = 0 ∧ xRock (tX bf ln) N n we F cu = .inl (u_70.1.2.2.2.2.2.2.1, u_70.1.2.2.2.2.2.2.2)) from (Or.inr ⟨rfl, xRock_l1 (by omega) st_67 st_73⟩))⟩ (hP.sub [0, 1, 2, 3, 4, 5, 6, 7] rfl) (hD.sub [0, 1, 2, 3, 4, 5, 6, 7] rfl rfl) dX6_readRock_219
    ·
      rw [qt_67]
      refine lv_if_eq (tgt := 85) hx hb dX6_readRock_42 rfl (fun _ => ?_) (fun c => absurd (by decide) c)
      refine lv_iconst (v := iZ 0) hx hb dX6_readRock_85 rfl ?_
      refine lv_istore_n (lv' := [(2, .int (iZ 0)), (1, .int (iZ n)), (0, .ref hq)]) hx hb dX6_readRock_86 rfl hl (bl rfl) rfl (fun ls hl => ?_)
      refine lv_iload_n hx hb dX6_readRock_87 rfl (lv_at hl 0 rfl) ?_
      refine lv_if_eq (tgt := 112) hx hb dX6_readRock_88 rfl (fun _ => ?_) (fun c => absurd (by decide) c)
      refine lv_iload_n hx hb dX6_readRock_112 rfl (lv_at hl 0 rfl) ?_
      refine lv_if_eq (tgt := 164) hx hb dX6_readRock_113 rfl (fun _ => ?_) (fun c => absurd (by decide) c)
      refine lv_iload_n hx hb dX6_readRock_164 rfl (lv_at hl 0 rfl) ?_
      refine lv_if_eq (tgt := 202) hx hb dX6_readRock_165 rfl (fun _ => ?_) (fun c => absurd (by decide) c)
      refine lv_iload_n hx hb dX6_readRock_202 rfl (lv_at hl 0 rfl) ?_
      refine lv_if_eq (tgt := 218) hx hb dX6_readRock_203 rfl (fun _ => ?_) (fun c => absurd (by decide) c)
      refine lv_iconst (v := iZ 0) hx hb dX6_readRock_218 rfl ?_
      exact EWz hx hb hr hlocks hS ((0, u_64.1.2.1, u_64.1.2.2.1, u_64.1.2.2.2.1, u_64.1.2.2.2.2.1, u_64.1.2.2.2.2.2.1, u_64.1.2.2.2.2.2.2.1, u_64.1.2.2.2.2.2.2.2, n, we), (0, u_64.2.1.2), f, u_64.2.2.2) rfl rfl ⟨(show (0 ≤ tp ∧ tp ≤ 900) ∧ (0 ≤ ln ∧ ln ≤ 900) ∧ (0 ≤ u_64.1.2.1 ∧ u_64.1.2.1 ≤ u_64.1.2.2.1) ∧ (u_64.1.2.2.1 ≤ ln) ∧ (0 ≤ u_64.1.2.2.2.1 ∧ u_64.1.2.2.2.1 ≤ 4) ∧ (-2147483648 ≤ u_64.1.2.2.2.2.1 ∧ u_64.1.2.2.2.2.1 < 2147483648) ∧ (-1 ≤ u_64.1.2.2.2.2.2.1 ∧ u_64.1.2.2.2.2.2.1 ≤ 24) from (by first | with_reducible assumption | exact ⟨⟨by omega, by omega⟩, ⟨by omega, by omega⟩, ⟨by omega, by omega⟩, by omega, ⟨by omega, by omega⟩, ⟨by omega, by omega⟩, by omega, by omega⟩)), (show -2147483648 ≤ we ∧ we < 2147483648 from ⟨by omega, by omega⟩), (show ((0 : Int) = 1 ∧ ∃ (q9 : Int) (F9 : Int → Int), xRock (tX bf ln) N n we F cu = .inr (q9, we, F9) ∧ cu < q9 ∧ RDX (tX bf ln) q9 u_64.1.2.1 u_64.1.2.2.1 u_64.1.2.2.2.1 u_64.1.2.2.2.2.1 u_64.1.2.2.2.2.2.1 u_64.2.1.2 ∧ xRw f F9 36 ∧ xNs u_64.2.2.2 (xUp N n (xNm (tX bf ln) (xEn (tX bf ln) cu))) n ∧ n = n + 1 ∧ (0 ≤ n ∧ n ≤ 6) ∧ SKZ f n ∧ u_64.1.2.2.2.2.2.2.1 = fk ∧ u_64.1.2.2.2.2.2.2.2 = fp) ∨ ((0 : Int) = 0 ∧ xRock (tX bf ln) N n we F cu = .inl (u_64.1.2.2.2.2.2.2.1, u_64.1.2.2.2.2.2.2.2)) from (Or.inr ⟨rfl, xRock_l0 (by omega) st_67⟩))⟩ (hP.sub [0, 1, 2, 3, 4, 5, 6, 7] rfl) (hD.sub [0, 1, 2, 3, 4, 5, 6, 7] rfl rfl) dX6_readRock_219
  ·
    have c_57 := mt (zlt (x := iZ n) (y := iZ 6) rfl rfl ⟨by omega, by omega⟩ wn_6).mpr c_57
    refine lv_aload_n hx hb dX6_readRock_12 rfl (lv_at hl 0 rfl) ?_
    refine va_get (D := D) (ci := 6) (v := .ref hr1) (C := RX6) (T := TX6) (N := 3) hx hb hts iX6 hown hK hP 0 rfl rfl 0 (bl rfl) (hts _ qf_X6_9) (fun _ h => h) rfl dX6_readRock_13 ?_
    refine lv_bipush (v := iZ 6) hx hb dX6_readRock_16 bip_6 ?_
    refine CWV (As := [.int (iZ 6)]) (rest := []) (wc := _) (wr := [(hq, .inr (6, [.ref hr1, .ref hs, .int (iZ lt)])), (hs, .inr (5, [.ref hN, .ref hf, .ref hg, .int (iZ n), .int (iZ ni), .int (iZ lw), .int (iZ we)])), (hN, .inl (k 2, 6, .inr (.inl nf))), (hf, .inl (k 1, 36, .inl f)), (hg, .inl (k 1, 32, .inl g))]) hx hb hml hown hts hKK hP hD hS hA (x_fail l D k hr1 tx kw tp ln pl en ki va ke fk fp nm bf kwf cu 6 (by first | with_reducible assumption | exact ⟨⟨by omega, by omega⟩, ⟨by omega, by omega⟩, ⟨by omega, by omega⟩, by omega, ⟨by omega, by omega⟩, ⟨by omega, by omega⟩, by omega, by omega⟩) hrx) ci_X4_fail qm_X6_47 ⟨Nat.le_of_ble_eq_true rfl, Nat.le_of_ble_eq_true rfl⟩ ⟨Nat.le_of_ble_eq_true rfl, Nat.le_of_ble_eq_true rfl⟩ [1, 2, 3] [0, 4, 5, 6, 7] rfl rfl rfl rfl rfl (dj rfl) 0 rfl rfl rfl hl.1 rfl (Nat.le_of_ble_eq_true rfl) dX6_readRock_18 (fun u_126 H locs hφ hP hD hS => ?_)
    have p_127 : u_126.1.2.1 = xFl (tX bf ln) cu 6 ∧ u_126.1.2.2 = xPl (tX bf ln) cu := hφ
    refine W.eq (g2 := F0 m 21 ls [.int (iZ 0)]) rfl ?_
    exact EWz hx hb hr hlocks hS ((0, pl, en, ki, va, ke, u_126.1.2.1, u_126.1.2.2, n, we), (0, nm), f, nf) rfl rfl ⟨(show (0 ≤ tp ∧ tp ≤ 900) ∧ (0 ≤ ln ∧ ln ≤ 900) ∧ (0 ≤ pl ∧ pl ≤ en) ∧ (en ≤ ln) ∧ (0 ≤ ki ∧ ki ≤ 4) ∧ (-2147483648 ≤ va ∧ va < 2147483648) ∧ (-1 ≤ ke ∧ ke ≤ 24) from (by first | with_reducible assumption | exact ⟨⟨by omega, by omega⟩, ⟨by omega, by omega⟩, ⟨by omega, by omega⟩, by omega, ⟨by omega, by omega⟩, ⟨by omega, by omega⟩, by omega, by omega⟩)), (show -2147483648 ≤ we ∧ we < 2147483648 from ⟨by omega, by omega⟩), (show ((0 : Int) = 1 ∧ ∃ (q9 : Int) (F9 : Int → Int), xRock (tX bf ln) N n we F cu = .inr (q9, we, F9) ∧ cu < q9 ∧ RDX (tX bf ln) q9 pl en ki va ke nm ∧ xRw f F9 36 ∧ xNs nf (xUp N n (xNm (tX bf ln) (xEn (tX bf ln) cu))) n ∧ n = n + 1 ∧ (0 ≤ n ∧ n ≤ 6) ∧ SKZ f n ∧ u_126.1.2.1 = fk ∧ u_126.1.2.2 = fp) ∨ ((0 : Int) = 0 ∧ xRock (tX bf ln) N n we F cu = .inl (u_126.1.2.1, u_126.1.2.2)) from (Or.inr ⟨rfl, xRock_6 (by omega) p_127⟩))⟩ (hP.sub [0, 5, 6, 7, 1, 2, 3, 4] rfl) (hD.sub [0, 5, 6, 7, 1, 2, 3, 4] rfl rfl) dX6_readRock_21
end
