theorem xFF_r {T : Int → Int} {w what lo hi n p q q2 v : Int} {F : Int → Int} (h1 : xTw T w p = .inr q) (h2 : xTn T lo hi q = .inr (q2, v)) : xFF T w what lo hi n p F = .inr (q2, xUp F ((n * 6) + what) v) := by
  unfold xFF
  rw [xBn_r h1, xBn_r h2]
theorem xFF_a {T : Int → Int} {w what lo hi n p : Int} {e : Int × Int} {F : Int → Int} (h1 : xTw T w p = .inl e) : xFF T w what lo hi n p F = .inl e := by
  unfold xFF
  rw [xBn_l h1]
theorem xFF_b {T : Int → Int} {w what lo hi n p q : Int} {e : Int × Int} {F : Int → Int} (h1 : xTw T w p = .inr q) (h2 : xTn T lo hi q = .inl e) : xFF T w what lo hi n p F = .inl e := by
  unfold xFF
  rw [xBn_r h1, xBn_l h2]
theorem xOF_0 {T : Int → Int} {w what lo hi n p : Int} {F : Int → Int} (h : ¬ xKw T p = w) : xOF T w what lo hi n p F = .inr (p, F) := by
  unfold xOF
  rw [if_neg h]
theorem xOF_1 {T : Int → Int} {w what lo hi n p : Int} {F : Int → Int} {r : (Int × Int) ⊕ (Int × (Int → Int))} (h : xKw T p = w) (h1 : xFF T w what lo hi n p F = r) : xOF T w what lo hi n p F = r := by
  unfold xOF
  rw [if_pos h, h1]
theorem xPr_0 {T : Int → Int} {n p : Int} {F : Int → Int} (h : ¬ xKw T p = 5) : xPr T n p F = .inr (p, F) := by
  unfold xPr
  rw [if_neg h]
theorem xPr_1 {T : Int → Int} {n p q : Int} {F G : Int → Int} {r : (Int × Int) ⊕ (Int × (Int → Int))} (h : xKw T p = 5) (h1 : xFF T 5 4 0 99 n p F = .inr (q, G)) (h2 : xOF T 6 5 0 20 n q G = r) : xPr T n p F = r := by
  unfold xPr
  rw [if_pos h, xBn_r h1]
  exact h2
theorem xPr_l {T : Int → Int} {n p : Int} {F : Int → Int} {e : Int × Int} (h : xKw T p = 5) (h1 : xFF T 5 4 0 99 n p F = .inl e) : xPr T n p F = .inl e := by
  unfold xPr
  rw [if_pos h, xBn_l h1]
theorem xR3_r {T : Int → Int} {n we p q : Int} {F G : Int → Int} (h : xOF T 4 3 0 9 n p F = .inr (q, G)) : xR3 T n we p F = xR4 T n we q G := by
  unfold xR3
  rw [xBn_r h]
theorem xR3_l {T : Int → Int} {n we p : Int} {F : Int → Int} {e : Int × Int} (h : xOF T 4 3 0 9 n p F = .inl e) : xR3 T n we p F = .inl e := by
  unfold xR3
  rw [xBn_l h]
theorem xR4_r {T : Int → Int} {n we p q : Int} {F G : Int → Int} (h : xPr T n p F = .inr (q, G)) : xR4 T n we p F = xR5 T n we q G := by
  unfold xR4
  rw [xBn_r h]
theorem xR4_l {T : Int → Int} {n we p : Int} {F : Int → Int} {e : Int × Int} (h : xPr T n p F = .inl e) : xR4 T n we p F = .inl e := by
  unfold xR4
  rw [xBn_l h]
theorem xR5_r {T : Int → Int} {n we p q w r : Int} {F : Int → Int} (h : xWe T n we p = (q, w)) (h2 : xTs T 59 q = .inr r) : xR5 T n we p F = .inr (r, w, F) := by
  rw [xR5_w h, xBn_r h2]
theorem xR5_l {T : Int → Int} {n we p q w : Int} {F : Int → Int} {e : Int × Int} (h : xWe T n we p = (q, w)) (h2 : xTs T 59 q = .inl e) : xR5 T n we p F = .inl e := by
  rw [xR5_w h, xBn_l h2]
theorem xWe_1 {T : Int → Int} {n we p w : Int} (h : xKw T p = 7) (hw : w = xOr we n) : xWe T n we p = (xEn T p, w) := by
  unfold xWe
  rw [if_pos h, hw]
theorem xWe_0 {T : Int → Int} {n we p : Int} (h : ¬ xKw T p = 7) : xWe T n we p = (p, we) := by
  unfold xWe
  rw [if_neg h]
theorem xRock_3 {T : Int → Int} {N F F1 F2 F3 : Int → Int} {n we p q q1 q2 q3 : Int} (hn : ¬ 6 ≤ n) (h0 : xNn T N n (xEn T p) = .inr q) (h1 : xFF T 1 0 0 20 n q F = .inr (q1, F1)) (h2 : xFF T 2 1 1 99 n q1 F1 = .inr (q2, F2)) (h3 : xFF T 3 2 0 11 n q2 F2 = .inr (q3, F3)) : xRock T N n we F p = xR3 T n we q3 F3 := by
  unfold xRock
  rw [if_neg hn, xBn_r h0, xBn_r h1, xBn_r h2, xBn_r h3]
theorem xRock_l0 {T : Int → Int} {N F : Int → Int} {n we p : Int} {e : Int × Int} (hn : ¬ 6 ≤ n) (h0 : xNn T N n (xEn T p) = .inl e) : xRock T N n we F p = .inl e := by
  unfold xRock
  rw [if_neg hn, xBn_l h0]
theorem xRock_l1 {T : Int → Int} {N F : Int → Int} {n we p q : Int} {e : Int × Int} (hn : ¬ 6 ≤ n) (h0 : xNn T N n (xEn T p) = .inr q) (h1 : xFF T 1 0 0 20 n q F = .inl e) : xRock T N n we F p = .inl e := by
  unfold xRock
  rw [if_neg hn, xBn_r h0, xBn_l h1]
theorem xRock_l2 {T : Int → Int} {N F F1 : Int → Int} {n we p q q1 : Int} {e : Int × Int} (hn : ¬ 6 ≤ n) (h0 : xNn T N n (xEn T p) = .inr q) (h1 : xFF T 1 0 0 20 n q F = .inr (q1, F1)) (h2 : xFF T 2 1 1 99 n q1 F1 = .inl e) : xRock T N n we F p = .inl e := by
  unfold xRock
  rw [if_neg hn, xBn_r h0, xBn_r h1, xBn_l h2]
theorem xRock_l3 {T : Int → Int} {N F F1 F2 : Int → Int} {n we p q q1 q2 : Int} {e : Int × Int} (hn : ¬ 6 ≤ n) (h0 : xNn T N n (xEn T p) = .inr q) (h1 : xFF T 1 0 0 20 n q F = .inr (q1, F1)) (h2 : xFF T 2 1 1 99 n q1 F1 = .inr (q2, F2)) (h3 : xFF T 3 2 0 11 n q2 F2 = .inl e) : xRock T N n we F p = .inl e := by
  unfold xRock
  rw [if_neg hn, xBn_r h0, xBn_r h1, xBn_r h2, xBn_l h3]
theorem xRock_6 {T : Int → Int} {N F : Int → Int} {n we p a b : Int} (hn : 6 ≤ n) (h : a = xFl T p 6 ∧ b = xPl T p) : xRock T N n we F p = .inl (a, b) := by
  unfold xRock xEr
  rw [if_pos hn, h.1, h.2]
theorem xIce_6 {T : Int → Int} {N G : Int → Int} {n ni p p1 p2 p3 p4 p5 p6 a b c d : Int} (hn : ¬ 8 ≤ ni) (h0 : xTr T N n (-1) (xEn T p) = .inr (p1, a)) (h1 : xTr T N n a p1 = .inr (p2, b)) (h2 : xTw T 9 p2 = .inr p3) (h3 : xTn T 0 400 p3 = .inr (p4, c)) (h4 : xTw T 10 p4 = .inr p5) (h5 : xTn T c 400 p5 = .inr (p6, d)) : xIce T N n ni G p = (xBn (xTs T 59 p6) fun q => .inr (q, xUp (xUp (xUp (xUp G ((ni * 4) + 0) a) ((ni * 4) + 1) b) ((ni * 4) + 2) c) ((ni * 4) + 3) d)) := by
  unfold xIce
  rw [if_neg hn, xBn_r h0, xBn_r h1, xBn_r h2, xBn_r h3, xBn_r h4, xBn_r h5]
theorem xIce_l0 {T : Int → Int} {N G : Int → Int} {n ni p : Int} {e : Int × Int} (hn : ¬ 8 ≤ ni) (h0 : xTr T N n (-1) (xEn T p) = .inl e) : xIce T N n ni G p = .inl e := by
  unfold xIce
  rw [if_neg hn, xBn_l h0]
theorem xIce_l1 {T : Int → Int} {N G : Int → Int} {n ni p p1 a : Int} {e : Int × Int} (hn : ¬ 8 ≤ ni) (h0 : xTr T N n (-1) (xEn T p) = .inr (p1, a)) (h1 : xTr T N n a p1 = .inl e) : xIce T N n ni G p = .inl e := by
  unfold xIce
  rw [if_neg hn, xBn_r h0, xBn_l h1]
theorem xIce_l2 {T : Int → Int} {N G : Int → Int} {n ni p p1 p2 a b : Int} {e : Int × Int} (hn : ¬ 8 ≤ ni) (h0 : xTr T N n (-1) (xEn T p) = .inr (p1, a)) (h1 : xTr T N n a p1 = .inr (p2, b)) (h2 : xTw T 9 p2 = .inl e) : xIce T N n ni G p = .inl e := by
  unfold xIce
  rw [if_neg hn, xBn_r h0, xBn_r h1, xBn_l h2]
theorem xIce_l3 {T : Int → Int} {N G : Int → Int} {n ni p p1 p2 p3 a b : Int} {e : Int × Int} (hn : ¬ 8 ≤ ni) (h0 : xTr T N n (-1) (xEn T p) = .inr (p1, a)) (h1 : xTr T N n a p1 = .inr (p2, b)) (h2 : xTw T 9 p2 = .inr p3) (h3 : xTn T 0 400 p3 = .inl e) : xIce T N n ni G p = .inl e := by
  unfold xIce
  rw [if_neg hn, xBn_r h0, xBn_r h1, xBn_r h2, xBn_l h3]
theorem xIce_l4 {T : Int → Int} {N G : Int → Int} {n ni p p1 p2 p3 p4 a b c : Int} {e : Int × Int} (hn : ¬ 8 ≤ ni) (h0 : xTr T N n (-1) (xEn T p) = .inr (p1, a)) (h1 : xTr T N n a p1 = .inr (p2, b)) (h2 : xTw T 9 p2 = .inr p3) (h3 : xTn T 0 400 p3 = .inr (p4, c)) (h4 : xTw T 10 p4 = .inl e) : xIce T N n ni G p = .inl e := by
  unfold xIce
  rw [if_neg hn, xBn_r h0, xBn_r h1, xBn_r h2, xBn_r h3, xBn_l h4]
theorem xIce_l5 {T : Int → Int} {N G : Int → Int} {n ni p p1 p2 p3 p4 p5 a b c : Int} {e : Int × Int} (hn : ¬ 8 ≤ ni) (h0 : xTr T N n (-1) (xEn T p) = .inr (p1, a)) (h1 : xTr T N n a p1 = .inr (p2, b)) (h2 : xTw T 9 p2 = .inr p3) (h3 : xTn T 0 400 p3 = .inr (p4, c)) (h4 : xTw T 10 p4 = .inr p5) (h5 : xTn T c 400 p5 = .inl e) : xIce T N n ni G p = .inl e := by
  unfold xIce
  rw [if_neg hn, xBn_r h0, xBn_r h1, xBn_r h2, xBn_r h3, xBn_r h4, xBn_l h5]
theorem xIce_8 {T : Int → Int} {N G : Int → Int} {n ni p a b : Int} (hn : 8 ≤ ni) (h : a = xFl T p 6 ∧ b = xPl T p) : xIce T N n ni G p = .inl (a, b) := by
  unfold xIce xEr
  rw [if_pos hn, h.1, h.2]
theorem xLaw_2 {T : Int → Int} {lt p k : Int} (hl : ¬ lt = 1) (hk : xLo (xKw T (xEn T p)) = k) (h1 : ¬ k = -1) : xLaw T lt p = (xBn (xTs T 59 (xEn T (xEn T p))) fun q => .inr (q, k)) := by
  unfold xLaw
  rw [if_neg hl, if_neg (by rw [hk]; exact h1), hk]
theorem xPart_r {T : Int → Int} {N F G : Int → Int} {n ni lw we lt p : Int} {q w n2 : Int} {F2 : Int → Int} (hk : xKw T p = 0) (h : xRock T N n we F p = .inr (q, w, F2)) (hn : n2 = n + 1) : xPart T p (n, ni, lw, we, lt, F, G, N) = .inr (q, (n2, ni, lw, w, lt, F2, G, xUp N n (xNm T (xEn T p)))) := by
  unfold xPart
  dsimp only
  rw [if_pos hk, xBn_r h, hn]
theorem xPart_rl {T : Int → Int} {N F G : Int → Int} {n ni lw we lt p : Int} {e : Int × Int} (hk : xKw T p = 0) (h : xRock T N n we F p = .inl e) : xPart T p (n, ni, lw, we, lt, F, G, N) = .inl e := by
  unfold xPart
  dsimp only
  rw [if_pos hk, xBn_l h]
theorem xPart_i {T : Int → Int} {N F G : Int → Int} {n ni lw we lt p : Int} {q n2 : Int} {G2 : Int → Int} (hk : xKw T p = 8) (h : xIce T N n ni G p = .inr (q, G2)) (hn : n2 = ni + 1) : xPart T p (n, ni, lw, we, lt, F, G, N) = .inr (q, (n, n2, lw, we, lt, F, G2, N)) := by
  unfold xPart
  dsimp only
  rw [if_neg (by omega), if_pos hk, xBn_r h, hn]
theorem xPart_il {T : Int → Int} {N F G : Int → Int} {n ni lw we lt p : Int} {e : Int × Int} (hk : xKw T p = 8) (h : xIce T N n ni G p = .inl e) : xPart T p (n, ni, lw, we, lt, F, G, N) = .inl e := by
  unfold xPart
  dsimp only
  rw [if_neg (by omega), if_pos hk, xBn_l h]
theorem xPart_w {T : Int → Int} {N F G : Int → Int} {n ni lw we lt p : Int} {q w t2 : Int} (hk : xKw T p = 11) (h : xLaw T lt p = .inr (q, w)) (ht : t2 = 1) : xPart T p (n, ni, lw, we, lt, F, G, N) = .inr (q, (n, ni, w, we, t2, F, G, N)) := by
  unfold xPart
  dsimp only
  rw [if_neg (by omega), if_neg (by omega), if_pos hk, xBn_r h, ht]
theorem xPart_wl {T : Int → Int} {N F G : Int → Int} {n ni lw we lt p : Int} {e : Int × Int} (hk : xKw T p = 11) (h : xLaw T lt p = .inl e) : xPart T p (n, ni, lw, we, lt, F, G, N) = .inl e := by
  unfold xPart
  dsimp only
  rw [if_neg (by omega), if_neg (by omega), if_pos hk, xBn_l h]
theorem xPart_0 {T : Int → Int} {N F G : Int → Int} {n ni lw we lt p : Int} {a b : Int} (h0 : ¬ xKw T p = 0) (h8 : ¬ xKw T p = 8) (h11 : ¬ xKw T p = 11) (h : a = xFl T p 2 ∧ b = xPl T p) : xPart T p (n, ni, lw, we, lt, F, G, N) = .inl (a, b) := by
  unfold xPart
  dsimp only
  rw [if_neg h0, if_neg h8, if_neg h11]
  unfold xEr
  rw [h.1, h.2]
