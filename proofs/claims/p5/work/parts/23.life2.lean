theorem rg_ext {f g : Nat → Int32} {lo hi n v : Int} (h : rgI f lo hi n) (hg : g = upd f (iZ n).toNatClampNeg (iZ v)) (h0 : 0 ≤ n ∧ n < 2147483648) (hv : lo ≤ v ∧ v ≤ hi) (hr : -2147483648 ≤ v ∧ v < 2147483648) : rgI g lo hi (n + 1) := by
  intro j hj hn
  rw [gz_up hg h0 hr hj]
  by_cases he : j = n
  · rw [if_pos he]; exact hv
  · rw [if_neg he]; exact h j hj (by omega)
/-- what the steps of YEARS may name -/
def YI (yw y1 y3 yp : Nat → Int32) (n rows : Int) : Prop := ∀ r : Int, 0 ≤ r → r < rows → (gz yw r = 17 → 0 ≤ gz y1 r ∧ gz y1 r < n) ∧ (gz yw r = 19 → gz y1 r = 20 → 0 ≤ gz y3 r ∧ gz y3 r < 6) ∧ (gz yw r = 19 ∨ gz yw r = 23 → 0 ≤ gz yp r ∧ gz yp r < rows)
/-- Life's world keeps its ranges: I: answer, week, orders, drawn, steps ..; F: arrivals, looks, known, tellers, hops, worn, givers, sent, known of orders, rounds -/
def BI (I : Nat → Int) (F : Nat → Nat → Int32) : Prop := (0 ≤ I 1 ∧ I 1 ≤ 400) ∧ (0 ≤ I 2 ∧ I 2 ≤ 20) ∧ (0 ≤ I 3 ∧ I 3 ≤ 65535) ∧ rgI (F 0) (-2) 420 14436 ∧ rgI (F 1) (-2) 400 14436 ∧ rgI (F 2) (-1) 420 6 ∧ rgI (F 3) (-1) 5 6 ∧ rgI (F 6) 0 5 (I 2)
set_option maxHeartbeats 4000000 in
set_option maxRecDepth 100000 in
theorem k_giveOrder (l : Launch) (D : va_G) (k : Nat → ClassId) (hL hw1 hc hy hn1 ro cw cg cs ck kn te ho co yw y1 y2 y3 yp : Nat) (dr st mi we tu o0 le th ys yr : Int) (ywf y1f y2f y3f ypf : Nat → Int32) (hyr : 0 ≤ yr ∧ yr ≤ 60) (h hs ha hl0 : Nat) (op : Int64) (fa fl : Nat → Int32) (rga : rgI fa (-2) 420 14436) (rgl : rgI fl (-2) 400 14436) (hf hg : Nat) (fs : List Value) (f1 : fs[1]? = some (.ref hf)) (f2 : fs[2]? = some (.ref hg)) (f g : Nat → Int32) (n : Int) (hn : n ≤ 6) (hx0 : FXI f n) (ni : Int) (f4 : fs[4]? = some (.int (iZ ni))) (hni : 0 ≤ ni ∧ ni ≤ 8) (f3 : fs[3]? = some (.int (iZ n))) (hn0 : 0 ≤ n) (lw : Int) (f5 : fs[5]? = some (.int (iZ lw))) (hlw : -2147483648 ≤ lw ∧ lw < 2147483648) (kf tf hf2 wf gf sf kf0 rof : Nat → Int32) (rgk : rgI kf (-1) 420 6) (rgt : rgI tf (-1) 5 6) (wk od : Int) (hwk : 0 ≤ wk ∧ wk ≤ 400) (hod : 0 ≤ od ∧ od ≤ 20) (rgg0 : rgI gf 0 5 od) (hdr : 0 ≤ dr ∧ dr ≤ 65535) (hYI : YI ywf y1f y3f ypf n yr) (a : Int) (ha0 : 0 ≤ a ∧ a < n) : WD (σ := ((Nat → Int) × Int64 × (Nat → Nat → Int32))) l yX1_giveOrder cX1_giveOrder 4 (some .int) 4 0 0 D k [.ref hL, .int (iZ a)] [(hL, .inr (1, [.ref hw1, .ref h, .ref hn1, .ref ro, .int (iZ dr), .int (iZ st), .int (iZ mi), .int (iZ we), .int (iZ tu), .int (iZ o0), .int (iZ le)])), (hw1, .inr (8, [.ref hs, .ref hc, .ref hy])), (hc, .inr (0, [.ref cw, .ref cg, .ref cs, .ref ck, .int (iZ wk), .int (iZ od)])), (cw, .inl (k 1, 401, .inl wf)), (cg, .inl (k 1, 20, .inl gf)), (cs, .inl (k 1, 20, .inl sf)), (ck, .inl (k 1, 120, .inl kf0)), (h, .inr (3, [.ref hs, .long op, .ref ha, .ref hl0])), (ha, .inl (k 1, 14436, .inl fa)), (hl0, .inl (k 1, 14436, .inl fl)), (hn1, .inr (2, [.ref hs, .ref h, .ref kn, .ref te, .ref ho, .ref co])), (kn, .inl (k 1, 6, .inl kf)), (te, .inl (k 1, 6, .inl tf)), (ho, .inl (k 1, 6, .inl hf2)), (ro, .inl (k 1, 60, .inl rof)), (hs, .inr (5, fs)), (hf, .inl (k 1, 36, .inl f)), (hg, .inl (k 1, 32, .inl g)), (hy, .inr (9, [.ref yw, .ref y1, .ref y2, .ref y3, .ref yp, .int (iZ th), .int (iZ ys), .int (iZ yr)])), (yw, .inl (k 1, 60, .inl ywf)), (y1, .inl (k 1, 60, .inl y1f)), (y2, .inl (k 1, 60, .inl y2f)), (y3, .inl (k 1, 60, .inl y3f)), (yp, .inl (k 1, 60, .inl ypf))] (fun u => some (.int (iZ (u.1 0)))) (fun u => ((-1 ≤ u.1 0 ∧ u.1 0 ≤ 20) ∧ u.1 4 = st) ∧ BI u.1 u.2.2) (fun u => [(hL, .inr (1, [.ref hw1, .ref h, .ref hn1, .ref ro, .int (iZ (u.1 3)), .int (iZ (u.1 4)), .int (iZ (u.1 5)), .int (iZ (u.1 6)), .int (iZ (u.1 7)), .int (iZ (u.1 8)), .int (iZ (u.1 9))])), (hw1, .inr (8, [.ref hs, .ref hc, .ref hy])), (hc, .inr (0, [.ref cw, .ref cg, .ref cs, .ref ck, .int (iZ (u.1 1)), .int (iZ (u.1 2))])), (cw, .inl (k 1, 401, .inl (u.2.2 5))), (cg, .inl (k 1, 20, .inl (u.2.2 6))), (cs, .inl (k 1, 20, .inl (u.2.2 7))), (ck, .inl (k 1, 120, .inl (u.2.2 8))), (h, .inr (3, [.ref hs, .long u.2.1, .ref ha, .ref hl0])), (ha, .inl (k 1, 14436, .inl (u.2.2 0))), (hl0, .inl (k 1, 14436, .inl (u.2.2 1))), (hn1, .inr (2, [.ref hs, .ref h, .ref kn, .ref te, .ref ho, .ref co])), (kn, .inl (k 1, 6, .inl (u.2.2 2))), (te, .inl (k 1, 6, .inl (u.2.2 3))), (ho, .inl (k 1, 6, .inl (u.2.2 4))), (ro, .inl (k 1, 60, .inl (u.2.2 9))), (hs, .inr (5, fs)), (hf, .inl (k 1, 36, .inl f)), (hg, .inl (k 1, 32, .inl g)), (hy, .inr (9, [.ref yw, .ref y1, .ref y2, .ref y3, .ref yp, .int (iZ th), .int (iZ ys), .int (iZ yr)])), (yw, .inl (k 1, 60, .inl ywf)), (y1, .inl (k 1, 60, .inl y1f)), (y2, .inl (k 1, 60, .inl y2f)), (y3, .inl (k 1, 60, .inl y3f)), (yp, .inl (k 1, 60, .inl ypf))]) := by
  refine MW (by decide) (Nat.le_of_ble_eq_true rfl) (fun p e s m below meth c ls A hx hb hml hr hlocks hin hts hown hKK hP hD hS hA hl => ?_)
  have hK := hKK.1
  have hl : lv_has ls 4 [(0, .ref hL), (1, .int (iZ a))] := hl
  refine lv_aload_n hx hb dX1_giveOrder_0 rfl (lv_at hl 0 rfl) ?_
  refine va_get (D := D) (ci := 1) (v := .ref hw1) (C := RX1) (T := TX1) (N := 11) hx hb hts iX1 hown hK hP 0 rfl rfl 0 (by decide) (hts _ qf_X1_17) (fun _ h => h) rfl dX1_giveOrder_1 ?_
  refine va_get (D := D) (ci := 8) (v := .ref hc) (C := RX8) (T := TX8) (N := 3) hx hb hts iX8 hown hK hP 1 rfl rfl 1 (by decide) (hts _ qf_X1_29) (fun _ h => h) rfl dX1_giveOrder_4 ?_
  refine lv_astore_n (lv' := [(2, .ref hc), (0, .ref hL), (1, .int (iZ a))]) hx hb dX1_giveOrder_7 rfl hl (by decide) rfl (fun ls hl => ?_)
  refine lv_aload_n hx hb dX1_giveOrder_8 rfl (lv_at hl 0 rfl) ?_
  refine va_get (D := D) (ci := 0) (v := .int (iZ od)) (C := RX0) (T := TX0) (N := 6) hx hb hts iX0 hown hK hP 2 rfl rfl 5 (by decide) (hts _ qf_X1_67) (fun _ h => h) rfl dX1_giveOrder_9 ?_
  refine lv_istore_n (lv' := [(3, .int (iZ od)), (2, .ref hc), (0, .ref hL), (1, .int (iZ a))]) hx hb dX1_giveOrder_12 rfl hl (by decide) rfl (fun ls hl => ?_)
  refine lv_iload_n hx hb dX1_giveOrder_13 rfl (lv_at hl 0 rfl) ?_
  refine lv_bipush (v := iZ 20) hx hb dX1_giveOrder_14 (by decide) ?_
  refine lv_icmp_lt (tgt := 21) hx hb dX1_giveOrder_16 (by decide) (fun c_1 => ?_) (fun c_1 => ?_)
  ·
    have c_1 := (zlt (x := iZ od) (y := iZ 20) rfl rfl ⟨by omega, by omega⟩ ⟨by omega, by omega⟩).mp c_1
    refine lv_aload_n hx hb dX1_giveOrder_21 rfl (lv_at hl 2 rfl) ?_
    refine va_get (D := D) (ci := 1) (v := .ref hn1) (C := RX1) (T := TX1) (N := 11) hx hb hts iX1 hown hK hP 0 rfl rfl 2 (by decide) (hts _ qf_X1_25) (fun _ h => h) rfl dX1_giveOrder_22 ?_
    refine lv_iload_n hx hb dX1_giveOrder_25 rfl (lv_at hl 3 rfl) ?_
    refine lv_aload_n hx hb dX1_giveOrder_26 rfl (lv_at hl 1 rfl) ?_
    refine va_get (D := D) (ci := 0) (v := .int (iZ wk)) (C := RX0) (T := TX0) (N := 6) hx hb hts iX0 hown hK hP 2 rfl rfl 4 (by decide) (hts _ qf_X1_35) (fun _ h => h) rfl dX1_giveOrder_27 ?_
    refine CWV (As := [.int (iZ a), .int (iZ wk)]) (rest := []) (wc := [(hn1, .inr (2, [.ref hs, .ref h, .ref kn, .ref te, .ref ho, .ref co])), (h, .inr (3, [.ref hs, .long op, .ref ha, .ref hl0])), (ha, .inl (k 1, 14436, .inl fa)), (hl0, .inl (k 1, 14436, .inl fl)), (kn, .inl (k 1, 6, .inl kf)), (te, .inl (k 1, 6, .inl tf)), (ho, .inl (k 1, 6, .inl hf2)), (hs, .inr (5, fs)), (hf, .inl (k 1, 36, .inl f)), (hg, .inl (k 1, 32, .inl g))]) (wr := [(hL, .inr (1, [.ref hw1, .ref h, .ref hn1, .ref ro, .int (iZ dr), .int (iZ st), .int (iZ mi), .int (iZ we), .int (iZ tu), .int (iZ o0), .int (iZ le)])), (hw1, .inr (8, [.ref hs, .ref hc, .ref hy])), (hc, .inr (0, [.ref cw, .ref cg, .ref cs, .ref ck, .int (iZ wk), .int (iZ od)])), (cw, .inl (k 1, 401, .inl wf)), (cg, .inl (k 1, 20, .inl gf)), (cs, .inl (k 1, 20, .inl sf)), (ck, .inl (k 1, 120, .inl kf0)), (ro, .inl (k 1, 60, .inl rof)), (hy, .inr (9, [.ref yw, .ref y1, .ref y2, .ref y3, .ref yp, .int (iZ th), .int (iZ ys), .int (iZ yr)])), (yw, .inl (k 1, 60, .inl ywf)), (y1, .inl (k 1, 60, .inl y1f)), (y2, .inl (k 1, 60, .inl y2f)), (y3, .inl (k 1, 60, .inl y3f)), (yp, .inl (k 1, 60, .inl ypf))]) hx hb hml hown hts hKK hP hD hS hA (k_spread l D k hn1 kn te ho co h hs ha hl0 op fa fl rga rgl fs hf hg f1 f2 f g n hn hx0 ni f4 hni f3 hn0 kf tf hf2 rgk rgt a wk ⟨by omega, by omega⟩ ⟨by omega, by omega⟩) ci_X2_spread qm_X1_70 ⟨Nat.le_of_ble_eq_true rfl, Nat.le_of_ble_eq_true rfl⟩ ⟨Nat.le_of_ble_eq_true rfl, Nat.le_of_ble_eq_true rfl⟩ [10, 7, 8, 9, 11, 12, 13, 15, 16, 17] [0, 1, 2, 3, 4, 5, 6, 14, 18, 19, 20, 21, 22, 23] rfl rfl rfl rfl rfl (by decide) 0 rfl rfl rfl hl.1 rfl (Nat.le_of_ble_eq_true rfl) dX1_giveOrder_30 (fun u_2 H locs hφ hP hD hS => ?_)
    obtain ⟨op_3, fa_4, fl_5, kf_6, tf_7, hf_8⟩ := u_2
    obtain ⟨rah_9, rlh_9, rkh_9, rth_9⟩ := hφ
    dsimp only at rah_9 rlh_9 rkh_9 rth_9
    have hP : va_P D vwCl [(hL, .inr (1, [.ref hw1, .ref h, .ref hn1, .ref ro, .int (iZ dr), .int (iZ st), .int (iZ mi), .int (iZ we), .int (iZ tu), .int (iZ o0), .int (iZ le)])), (hw1, .inr (8, [.ref hs, .ref hc, .ref hy])), (hc, .inr (0, [.ref cw, .ref cg, .ref cs, .ref ck, .int (iZ wk), .int (iZ od)])), (cw, .inl (k 1, 401, .inl wf)), (cg, .inl (k 1, 20, .inl gf)), (cs, .inl (k 1, 20, .inl sf)), (ck, .inl (k 1, 120, .inl kf0)), (ro, .inl (k 1, 60, .inl rof)), (hy, .inr (9, [.ref yw, .ref y1, .ref y2, .ref y3, .ref yp, .int (iZ th), .int (iZ ys), .int (iZ yr)])), (yw, .inl (k 1, 60, .inl ywf)), (y1, .inl (k 1, 60, .inl y1f)), (y2, .inl (k 1, 60, .inl y2f)), (y3, .inl (k 1, 60, .inl y3f)), (yp, .inl (k 1, 60, .inl ypf)), (hn1, .inr (2, [.ref hs, .ref h, .ref kn, .ref te, .ref ho, .ref co])), (h, .inr (3, [.ref hs, .long op_3, .ref ha, .ref hl0])), (ha, .inl (k 1, 14436, .inl fa_4)), (hl0, .inl (k 1, 14436, .inl fl_5)), (kn, .inl (k 1, 6, .inl kf_6)), (te, .inl (k 1, 6, .inl tf_7)), (ho, .inl (k 1, 6, .inl hf_8)), (hs, .inr (5, fs)), (hf, .inl (k 1, 36, .inl f)), (hg, .inl (k 1, 32, .inl g))] H := hP
    have hD : va_D A [(hL, .inr (1, [.ref hw1, .ref h, .ref hn1, .ref ro, .int (iZ dr), .int (iZ st), .int (iZ mi), .int (iZ we), .int (iZ tu), .int (iZ o0), .int (iZ le)])), (hw1, .inr (8, [.ref hs, .ref hc, .ref hy])), (hc, .inr (0, [.ref cw, .ref cg, .ref cs, .ref ck, .int (iZ wk), .int (iZ od)])), (cw, .inl (k 1, 401, .inl wf)), (cg, .inl (k 1, 20, .inl gf)), (cs, .inl (k 1, 20, .inl sf)), (ck, .inl (k 1, 120, .inl kf0)), (ro, .inl (k 1, 60, .inl rof)), (hy, .inr (9, [.ref yw, .ref y1, .ref y2, .ref y3, .ref yp, .int (iZ th), .int (iZ ys), .int (iZ yr)])), (yw, .inl (k 1, 60, .inl ywf)), (y1, .inl (k 1, 60, .inl y1f)), (y2, .inl (k 1, 60, .inl y2f)), (y3, .inl (k 1, 60, .inl y3f)), (yp, .inl (k 1, 60, .inl ypf)), (hn1, .inr (2, [.ref hs, .ref h, .ref kn, .ref te, .ref ho, .ref co])), (h, .inr (3, [.ref hs, .long op_3, .ref ha, .ref hl0])), (ha, .inl (k 1, 14436, .inl fa_4)), (hl0, .inl (k 1, 14436, .inl fl_5)), (kn, .inl (k 1, 6, .inl kf_6)), (te, .inl (k 1, 6, .inl tf_7)), (ho, .inl (k 1, 6, .inl hf_8)), (hs, .inr (5, fs)), (hf, .inl (k 1, 36, .inl f)), (hg, .inl (k 1, 32, .inl g))] := hD
    refine W.eq (g2 := F0 m 33 ls []) rfl ?_
    refine lv_aload_n hx hb dX1_giveOrder_33 rfl (lv_at hl 1 rfl) ?_
    refine va_get (D := D) (ci := 0) (v := .ref cg) (C := RX0) (T := TX0) (N := 6) hx hb hts iX0 hown hK hP 2 rfl rfl 1 (by decide) (hts _ qf_X1_76) (fun _ h => h) rfl dX1_giveOrder_34 ?_
    refine lv_iload_n hx hb dX1_giveOrder_37 rfl (lv_at hl 0 rfl) ?_
    refine lv_iload_n hx hb dX1_giveOrder_38 rfl (lv_at hl 3 rfl) ?_
    refine va_iast hx hb hK hP hD hS 4 1 rfl rfl (zin (e := od) (n := 20) ⟨by omega, by omega⟩ (by decide)) dX1_giveOrder_39 (fun H locs hP hD hS => ?_)
    obtain ⟨f_10, hf_10⟩ : ∃ gg9, gg9 = upd gf (iZ od).toNatClampNeg (iZ a) := ⟨_, rfl⟩
    rw [← hf_10] at hP hD
    have rgf_10 := rg_upd rgg0 hf_10 (by omega) ⟨by omega, by omega⟩ ⟨by omega, by omega⟩
    have hP : va_P D vwCl [(hL, .inr (1, [.ref hw1, .ref h, .ref hn1, .ref ro, .int (iZ dr), .int (iZ st), .int (iZ mi), .int (iZ we), .int (iZ tu), .int (iZ o0), .int (iZ le)])), (hw1, .inr (8, [.ref hs, .ref hc, .ref hy])), (hc, .inr (0, [.ref cw, .ref cg, .ref cs, .ref ck, .int (iZ wk), .int (iZ od)])), (cw, .inl (k 1, 401, .inl wf)), (cg, .inl (k 1, 20, .inl f_10)), (cs, .inl (k 1, 20, .inl sf)), (ck, .inl (k 1, 120, .inl kf0)), (ro, .inl (k 1, 60, .inl rof)), (hy, .inr (9, [.ref yw, .ref y1, .ref y2, .ref y3, .ref yp, .int (iZ th), .int (iZ ys), .int (iZ yr)])), (yw, .inl (k 1, 60, .inl ywf)), (y1, .inl (k 1, 60, .inl y1f)), (y2, .inl (k 1, 60, .inl y2f)), (y3, .inl (k 1, 60, .inl y3f)), (yp, .inl (k 1, 60, .inl ypf)), (hn1, .inr (2, [.ref hs, .ref h, .ref kn, .ref te, .ref ho, .ref co])), (h, .inr (3, [.ref hs, .long op_3, .ref ha, .ref hl0])), (ha, .inl (k 1, 14436, .inl fa_4)), (hl0, .inl (k 1, 14436, .inl fl_5)), (kn, .inl (k 1, 6, .inl kf_6)), (te, .inl (k 1, 6, .inl tf_7)), (ho, .inl (k 1, 6, .inl hf_8)), (hs, .inr (5, fs)), (hf, .inl (k 1, 36, .inl f)), (hg, .inl (k 1, 32, .inl g))] H := hP
    have hD : va_D A [(hL, .inr (1, [.ref hw1, .ref h, .ref hn1, .ref ro, .int (iZ dr), .int (iZ st), .int (iZ mi), .int (iZ we), .int (iZ tu), .int (iZ o0), .int (iZ le)])), (hw1, .inr (8, [.ref hs, .ref hc, .ref hy])), (hc, .inr (0, [.ref cw, .ref cg, .ref cs, .ref ck, .int (iZ wk), .int (iZ od)])), (cw, .inl (k 1, 401, .inl wf)), (cg, .inl (k 1, 20, .inl f_10)), (cs, .inl (k 1, 20, .inl sf)), (ck, .inl (k 1, 120, .inl kf0)), (ro, .inl (k 1, 60, .inl rof)), (hy, .inr (9, [.ref yw, .ref y1, .ref y2, .ref y3, .ref yp, .int (iZ th), .int (iZ ys), .int (iZ yr)])), (yw, .inl (k 1, 60, .inl ywf)), (y1, .inl (k 1, 60, .inl y1f)), (y2, .inl (k 1, 60, .inl y2f)), (y3, .inl (k 1, 60, .inl y3f)), (yp, .inl (k 1, 60, .inl ypf)), (hn1, .inr (2, [.ref hs, .ref h, .ref kn, .ref te, .ref ho, .ref co])), (h, .inr (3, [.ref hs, .long op_3, .ref ha, .ref hl0])), (ha, .inl (k 1, 14436, .inl fa_4)), (hl0, .inl (k 1, 14436, .inl fl_5)), (kn, .inl (k 1, 6, .inl kf_6)), (te, .inl (k 1, 6, .inl tf_7)), (ho, .inl (k 1, 6, .inl hf_8)), (hs, .inr (5, fs)), (hf, .inl (k 1, 36, .inl f)), (hg, .inl (k 1, 32, .inl g))] := hD
    refine lv_aload_n hx hb dX1_giveOrder_40 rfl (lv_at hl 1 rfl) ?_
    refine va_get (D := D) (ci := 0) (v := .ref cs) (C := RX0) (T := TX0) (N := 6) hx hb hts iX0 hown hK hP 2 rfl rfl 2 (by decide) (hts _ qf_X1_79) (fun _ h => h) rfl dX1_giveOrder_41 ?_
    refine lv_iload_n hx hb dX1_giveOrder_44 rfl (lv_at hl 0 rfl) ?_
    refine lv_aload_n hx hb dX1_giveOrder_45 rfl (lv_at hl 1 rfl) ?_
    refine va_get (D := D) (ci := 0) (v := .int (iZ wk)) (C := RX0) (T := TX0) (N := 6) hx hb hts iX0 hown hK hP 2 rfl rfl 4 (by decide) (hts _ qf_X1_35) (fun _ h => h) rfl dX1_giveOrder_46 ?_
    refine va_iast hx hb hK hP hD hS 5 1 rfl rfl (zin (e := od) (n := 20) ⟨by omega, by omega⟩ (by decide)) dX1_giveOrder_49 (fun H locs hP hD hS => ?_)
    obtain ⟨f_11, hf_11⟩ : ∃ gg9, gg9 = upd sf (iZ od).toNatClampNeg (iZ wk) := ⟨_, rfl⟩
    rw [← hf_11] at hP hD
    have hP : va_P D vwCl [(hL, .inr (1, [.ref hw1, .ref h, .ref hn1, .ref ro, .int (iZ dr), .int (iZ st), .int (iZ mi), .int (iZ we), .int (iZ tu), .int (iZ o0), .int (iZ le)])), (hw1, .inr (8, [.ref hs, .ref hc, .ref hy])), (hc, .inr (0, [.ref cw, .ref cg, .ref cs, .ref ck, .int (iZ wk), .int (iZ od)])), (cw, .inl (k 1, 401, .inl wf)), (cg, .inl (k 1, 20, .inl f_10)), (cs, .inl (k 1, 20, .inl f_11)), (ck, .inl (k 1, 120, .inl kf0)), (ro, .inl (k 1, 60, .inl rof)), (hy, .inr (9, [.ref yw, .ref y1, .ref y2, .ref y3, .ref yp, .int (iZ th), .int (iZ ys), .int (iZ yr)])), (yw, .inl (k 1, 60, .inl ywf)), (y1, .inl (k 1, 60, .inl y1f)), (y2, .inl (k 1, 60, .inl y2f)), (y3, .inl (k 1, 60, .inl y3f)), (yp, .inl (k 1, 60, .inl ypf)), (hn1, .inr (2, [.ref hs, .ref h, .ref kn, .ref te, .ref ho, .ref co])), (h, .inr (3, [.ref hs, .long op_3, .ref ha, .ref hl0])), (ha, .inl (k 1, 14436, .inl fa_4)), (hl0, .inl (k 1, 14436, .inl fl_5)), (kn, .inl (k 1, 6, .inl kf_6)), (te, .inl (k 1, 6, .inl tf_7)), (ho, .inl (k 1, 6, .inl hf_8)), (hs, .inr (5, fs)), (hf, .inl (k 1, 36, .inl f)), (hg, .inl (k 1, 32, .inl g))] H := hP
    have hD : va_D A [(hL, .inr (1, [.ref hw1, .ref h, .ref hn1, .ref ro, .int (iZ dr), .int (iZ st), .int (iZ mi), .int (iZ we), .int (iZ tu), .int (iZ o0), .int (iZ le)])), (hw1, .inr (8, [.ref hs, .ref hc, .ref hy])), (hc, .inr (0, [.ref cw, .ref cg, .ref cs, .ref ck, .int (iZ wk), .int (iZ od)])), (cw, .inl (k 1, 401, .inl wf)), (cg, .inl (k 1, 20, .inl f_10)), (cs, .inl (k 1, 20, .inl f_11)), (ck, .inl (k 1, 120, .inl kf0)), (ro, .inl (k 1, 60, .inl rof)), (hy, .inr (9, [.ref yw, .ref y1, .ref y2, .ref y3, .ref yp, .int (iZ th), .int (iZ ys), .int (iZ yr)])), (yw, .inl (k 1, 60, .inl ywf)), (y1, .inl (k 1, 60, .inl y1f)), (y2, .inl (k 1, 60, .inl y2f)), (y3, .inl (k 1, 60, .inl y3f)), (yp, .inl (k 1, 60, .inl ypf)), (hn1, .inr (2, [.ref hs, .ref h, .ref kn, .ref te, .ref ho, .ref co])), (h, .inr (3, [.ref hs, .long op_3, .ref ha, .ref hl0])), (ha, .inl (k 1, 14436, .inl fa_4)), (hl0, .inl (k 1, 14436, .inl fl_5)), (kn, .inl (k 1, 6, .inl kf_6)), (te, .inl (k 1, 6, .inl tf_7)), (ho, .inl (k 1, 6, .inl hf_8)), (hs, .inr (5, fs)), (hf, .inl (k 1, 36, .inl f)), (hg, .inl (k 1, 32, .inl g))] := hD
    refine lv_aload_n hx hb dX1_giveOrder_50 rfl (lv_at hl 2 rfl) ?_
    refine va_get (D := D) (ci := 1) (v := .ref hn1) (C := RX1) (T := TX1) (N := 11) hx hb hts iX1 hown hK hP 0 rfl rfl 2 (by decide) (hts _ qf_X1_25) (fun _ h => h) rfl dX1_giveOrder_51 ?_
    refine va_get (D := D) (ci := 2) (v := .ref kn) (C := RX2) (T := TX2) (N := 6) hx hb hts iX2 hown hK hP 14 rfl rfl 2 (by decide) (hts _ qf_X1_82) (fun _ h => h) rfl dX1_giveOrder_54 ?_
    refine lv_iconst (v := iZ 0) hx hb dX1_giveOrder_57 (by decide) ?_
    refine lv_aload_n hx hb dX1_giveOrder_58 rfl (lv_at hl 1 rfl) ?_
    refine va_get (D := D) (ci := 0) (v := .ref ck) (C := RX0) (T := TX0) (N := 6) hx hb hts iX0 hown hK hP 2 rfl rfl 3 (by decide) (hts _ qf_X1_85) (fun _ h => h) rfl dX1_giveOrder_59 ?_
    refine lv_iload_n hx hb dX1_giveOrder_62 rfl (lv_at hl 0 rfl) ?_
    refine lv_bipush (v := iZ 6) hx hb dX1_giveOrder_63 (by decide) ?_
    refine lv_imul hx hb dX1_giveOrder_65 ?_
    refine lv_topi (fun x_12 ex_12 => ?_)
    obtain rfl : x_12 = iZ (od * 6) := ex_12.trans (iZ_mul od 6)
    refine lv_bipush (v := iZ 6) hx hb dX1_giveOrder_66 (by decide) ?_
    refine va_copyi hx hb (by rw [hml]; exact hl.1.symm) (own := RX1) hown (hts _ qm_X1_86) (hts _ qn_arraycopy) (hts _ qt_arraycopyName) (hts _ qz_J10) hK hP hD hS 18 6 1 1 rfl rfl rfl rfl rfl (fun h => absurd ((zlt (x := iZ 0) (y := 0) (b := 0) rfl rfl ⟨by omega, by omega⟩ ⟨by omega, by omega⟩).mp h) (by omega)) (fun h => absurd ((zlt (x := iZ (od * 6)) (y := 0) (b := 0) rfl rfl ⟨by omega, by omega⟩ ⟨by omega, by omega⟩).mp h) (by omega)) (fun h => absurd ((zlt (x := iZ 6) (y := 0) (b := 0) rfl rfl ⟨by omega, by omega⟩ ⟨by omega, by omega⟩).mp h) (by omega)) (by rw [zcl (e := 0) ⟨by omega, by omega⟩, zcl (e := 6) ⟨by omega, by omega⟩]; omega) (by rw [zcl (e := (od * 6)) ⟨by omega, by omega⟩, zcl (e := 6) ⟨by omega, by omega⟩]; omega) (fun _ _ => rfl) (Nat.le_of_ble_eq_true rfl) (Nat.le_of_ble_eq_true rfl) dX1_giveOrder_68 (fun H locs hP hD hS => ?_)
    obtain ⟨f_13, hf_13⟩ : ∃ gg9, gg9 = va_cpy kf_6 kf0 (iZ 0).toNatClampNeg (iZ (od * 6)).toNatClampNeg (iZ 6).toNatClampNeg := ⟨_, rfl⟩
    rw [← hf_13] at hP hD
    have hP : va_P D vwCl [(hL, .inr (1, [.ref hw1, .ref h, .ref hn1, .ref ro, .int (iZ dr), .int (iZ st), .int (iZ mi), .int (iZ we), .int (iZ tu), .int (iZ o0), .int (iZ le)])), (hw1, .inr (8, [.ref hs, .ref hc, .ref hy])), (hc, .inr (0, [.ref cw, .ref cg, .ref cs, .ref ck, .int (iZ wk), .int (iZ od)])), (cw, .inl (k 1, 401, .inl wf)), (cg, .inl (k 1, 20, .inl f_10)), (cs, .inl (k 1, 20, .inl f_11)), (ck, .inl (k 1, 120, .inl f_13)), (ro, .inl (k 1, 60, .inl rof)), (hy, .inr (9, [.ref yw, .ref y1, .ref y2, .ref y3, .ref yp, .int (iZ th), .int (iZ ys), .int (iZ yr)])), (yw, .inl (k 1, 60, .inl ywf)), (y1, .inl (k 1, 60, .inl y1f)), (y2, .inl (k 1, 60, .inl y2f)), (y3, .inl (k 1, 60, .inl y3f)), (yp, .inl (k 1, 60, .inl ypf)), (hn1, .inr (2, [.ref hs, .ref h, .ref kn, .ref te, .ref ho, .ref co])), (h, .inr (3, [.ref hs, .long op_3, .ref ha, .ref hl0])), (ha, .inl (k 1, 14436, .inl fa_4)), (hl0, .inl (k 1, 14436, .inl fl_5)), (kn, .inl (k 1, 6, .inl kf_6)), (te, .inl (k 1, 6, .inl tf_7)), (ho, .inl (k 1, 6, .inl hf_8)), (hs, .inr (5, fs)), (hf, .inl (k 1, 36, .inl f)), (hg, .inl (k 1, 32, .inl g))] H := hP
    have hD : va_D A [(hL, .inr (1, [.ref hw1, .ref h, .ref hn1, .ref ro, .int (iZ dr), .int (iZ st), .int (iZ mi), .int (iZ we), .int (iZ tu), .int (iZ o0), .int (iZ le)])), (hw1, .inr (8, [.ref hs, .ref hc, .ref hy])), (hc, .inr (0, [.ref cw, .ref cg, .ref cs, .ref ck, .int (iZ wk), .int (iZ od)])), (cw, .inl (k 1, 401, .inl wf)), (cg, .inl (k 1, 20, .inl f_10)), (cs, .inl (k 1, 20, .inl f_11)), (ck, .inl (k 1, 120, .inl f_13)), (ro, .inl (k 1, 60, .inl rof)), (hy, .inr (9, [.ref yw, .ref y1, .ref y2, .ref y3, .ref yp, .int (iZ th), .int (iZ ys), .int (iZ yr)])), (yw, .inl (k 1, 60, .inl ywf)), (y1, .inl (k 1, 60, .inl y1f)), (y2, .inl (k 1, 60, .inl y2f)), (y3, .inl (k 1, 60, .inl y3f)), (yp, .inl (k 1, 60, .inl ypf)), (hn1, .inr (2, [.ref hs, .ref h, .ref kn, .ref te, .ref ho, .ref co])), (h, .inr (3, [.ref hs, .long op_3, .ref ha, .ref hl0])), (ha, .inl (k 1, 14436, .inl fa_4)), (hl0, .inl (k 1, 14436, .inl fl_5)), (kn, .inl (k 1, 6, .inl kf_6)), (te, .inl (k 1, 6, .inl tf_7)), (ho, .inl (k 1, 6, .inl hf_8)), (hs, .inr (5, fs)), (hf, .inl (k 1, 36, .inl f)), (hg, .inl (k 1, 32, .inl g))] := hD
    refine lv_aload_n hx hb dX1_giveOrder_71 rfl (lv_at hl 1 rfl) ?_
    refine lv_dup hx hb dX1_giveOrder_72 rfl ?_
    refine va_get (D := D) (ci := 0) (v := .int (iZ od)) (C := RX0) (T := TX0) (N := 6) hx hb hts iX0 hown hK hP 2 rfl rfl 5 (by decide) (hts _ qf_X1_67) (fun _ h => h) rfl dX1_giveOrder_73 ?_
    refine lv_iconst (v := iZ 1) hx hb dX1_giveOrder_76 (by decide) ?_
    refine lv_iadd hx hb dX1_giveOrder_77 ?_
    refine lv_topi (fun x_14 ex_14 => ?_)
    obtain rfl : x_14 = iZ (od + 1) := ex_14.trans (iZ_add od 1)
    refine va_put (D := D) (ci := 0) (v := .int (iZ (od + 1))) (ty := .int) (C := RX0) (T := TX0) (N := 6) hx hb hts iX0 tyX0 tyX0_ok nmX0 hown hK hP hD hS 2 rfl rfl 5 (by decide) (hts _ qf_X1_67) (fun _ h => h) rfl (by decide +kernel) rfl rfl (Nat.le_of_ble_eq_true rfl) dX1_giveOrder_78 (fun H locs hP hD hS => ?_)
    have hP : va_P D vwCl [(hL, .inr (1, [.ref hw1, .ref h, .ref hn1, .ref ro, .int (iZ dr), .int (iZ st), .int (iZ mi), .int (iZ we), .int (iZ tu), .int (iZ o0), .int (iZ le)])), (hw1, .inr (8, [.ref hs, .ref hc, .ref hy])), (hc, .inr (0, [.ref cw, .ref cg, .ref cs, .ref ck, .int (iZ wk), .int (iZ (od + 1))])), (cw, .inl (k 1, 401, .inl wf)), (cg, .inl (k 1, 20, .inl f_10)), (cs, .inl (k 1, 20, .inl f_11)), (ck, .inl (k 1, 120, .inl f_13)), (ro, .inl (k 1, 60, .inl rof)), (hy, .inr (9, [.ref yw, .ref y1, .ref y2, .ref y3, .ref yp, .int (iZ th), .int (iZ ys), .int (iZ yr)])), (yw, .inl (k 1, 60, .inl ywf)), (y1, .inl (k 1, 60, .inl y1f)), (y2, .inl (k 1, 60, .inl y2f)), (y3, .inl (k 1, 60, .inl y3f)), (yp, .inl (k 1, 60, .inl ypf)), (hn1, .inr (2, [.ref hs, .ref h, .ref kn, .ref te, .ref ho, .ref co])), (h, .inr (3, [.ref hs, .long op_3, .ref ha, .ref hl0])), (ha, .inl (k 1, 14436, .inl fa_4)), (hl0, .inl (k 1, 14436, .inl fl_5)), (kn, .inl (k 1, 6, .inl kf_6)), (te, .inl (k 1, 6, .inl tf_7)), (ho, .inl (k 1, 6, .inl hf_8)), (hs, .inr (5, fs)), (hf, .inl (k 1, 36, .inl f)), (hg, .inl (k 1, 32, .inl g))] H := hP
    have hD : va_D A [(hL, .inr (1, [.ref hw1, .ref h, .ref hn1, .ref ro, .int (iZ dr), .int (iZ st), .int (iZ mi), .int (iZ we), .int (iZ tu), .int (iZ o0), .int (iZ le)])), (hw1, .inr (8, [.ref hs, .ref hc, .ref hy])), (hc, .inr (0, [.ref cw, .ref cg, .ref cs, .ref ck, .int (iZ wk), .int (iZ (od + 1))])), (cw, .inl (k 1, 401, .inl wf)), (cg, .inl (k 1, 20, .inl f_10)), (cs, .inl (k 1, 20, .inl f_11)), (ck, .inl (k 1, 120, .inl f_13)), (ro, .inl (k 1, 60, .inl rof)), (hy, .inr (9, [.ref yw, .ref y1, .ref y2, .ref y3, .ref yp, .int (iZ th), .int (iZ ys), .int (iZ yr)])), (yw, .inl (k 1, 60, .inl ywf)), (y1, .inl (k 1, 60, .inl y1f)), (y2, .inl (k 1, 60, .inl y2f)), (y3, .inl (k 1, 60, .inl y3f)), (yp, .inl (k 1, 60, .inl ypf)), (hn1, .inr (2, [.ref hs, .ref h, .ref kn, .ref te, .ref ho, .ref co])), (h, .inr (3, [.ref hs, .long op_3, .ref ha, .ref hl0])), (ha, .inl (k 1, 14436, .inl fa_4)), (hl0, .inl (k 1, 14436, .inl fl_5)), (kn, .inl (k 1, 6, .inl kf_6)), (te, .inl (k 1, 6, .inl tf_7)), (ho, .inl (k 1, 6, .inl hf_8)), (hs, .inr (5, fs)), (hf, .inl (k 1, 36, .inl f)), (hg, .inl (k 1, 32, .inl g))] := hD
    refine lv_iload_n hx hb dX1_giveOrder_81 rfl (lv_at hl 0 rfl) ?_
    exact EWi hx hb hr hlocks hS (fun i => [od, wk, (od + 1), dr, st, mi, we, tu, o0, le].getD i 0, op_3, fun i => [fa_4, fl_5, kf_6, tf_7, hf_8, wf, f_10, f_11, f_13, rof].getD i (fun _ => 0)) rfl ⟨⟨show -1 ≤ od ∧ od ≤ 20 from ⟨by omega, by omega⟩, rfl⟩, show BI _ _ from ⟨show 0 ≤ wk ∧ wk ≤ 400 from ⟨by omega, by omega⟩, show 0 ≤ (od + 1) ∧ (od + 1) ≤ 20 from ⟨by omega, by omega⟩, show 0 ≤ dr ∧ dr ≤ 65535 from ⟨by omega, by omega⟩, rah_9, rlh_9, rkh_9, rth_9, (rg_ext rgg0 hf_10 ⟨by omega, by omega⟩ ⟨by omega, by omega⟩ ⟨by omega, by omega⟩)⟩⟩ (hP.sub [0, 1, 2, 3, 4, 5, 6, 15, 16, 17, 14, 18, 19, 20, 7, 21, 22, 23, 8, 9, 10, 11, 12, 13] rfl) (hD.sub [0, 1, 2, 3, 4, 5, 6, 15, 16, 17, 14, 18, 19, 20, 7, 21, 22, 23, 8, 9, 10, 11, 12, 13] rfl rfl) dX1_giveOrder_82
  ·
    have c_1 := mt (zlt (x := iZ od) (y := iZ 20) rfl rfl ⟨by omega, by omega⟩ ⟨by omega, by omega⟩).mpr c_1
    refine lv_iconst (v := iZ (-1)) hx hb dX1_giveOrder_19 (by decide) ?_
    exact EWi hx hb hr hlocks hS (fun i => [(-1), wk, od, dr, st, mi, we, tu, o0, le].getD i 0, op, fun i => [fa, fl, kf, tf, hf2, wf, gf, sf, kf0, rof].getD i (fun _ => 0)) rfl ⟨⟨show -1 ≤ (-1) ∧ (-1) ≤ 20 from ⟨by omega, by omega⟩, rfl⟩, show BI _ _ from ⟨show 0 ≤ wk ∧ wk ≤ 400 from ⟨by omega, by omega⟩, show 0 ≤ od ∧ od ≤ 20 from ⟨by omega, by omega⟩, show 0 ≤ dr ∧ dr ≤ 65535 from ⟨by omega, by omega⟩, rga, rgl, rgk, rgt, rgg0⟩⟩ (hP.sub [0, 1, 2, 3, 4, 5, 6, 7, 8, 9, 10, 11, 12, 13, 14, 15, 16, 17, 18, 19, 20, 21, 22, 23] rfl) (hD.sub [0, 1, 2, 3, 4, 5, 6, 7, 8, 9, 10, 11, 12, 13, 14, 15, 16, 17, 18, 19, 20, 21, 22, 23] rfl rfl) dX1_giveOrder_20
set_option maxHeartbeats 4000000 in
set_option maxRecDepth 100000 in
theorem k_turnByChance (l : Launch) (D : va_G) (k : Nat → ClassId) (hL hw1 hc hy hn1 ro cw cg cs ck kn te ho co yw y1 y2 y3 yp : Nat) (dr st mi we tu o0 le th ys yr : Int) (ywf y1f y2f y3f ypf : Nat → Int32) (hyr : 0 ≤ yr ∧ yr ≤ 60) (h hs ha hl0 : Nat) (op : Int64) (fa fl : Nat → Int32) (rga : rgI fa (-2) 420 14436) (rgl : rgI fl (-2) 400 14436) (hf hg : Nat) (fs : List Value) (f1 : fs[1]? = some (.ref hf)) (f2 : fs[2]? = some (.ref hg)) (f g : Nat → Int32) (n : Int) (hn : n ≤ 6) (hx0 : FXI f n) (ni : Int) (f4 : fs[4]? = some (.int (iZ ni))) (hni : 0 ≤ ni ∧ ni ≤ 8) (f3 : fs[3]? = some (.int (iZ n))) (hn0 : 0 ≤ n) (lw : Int) (f5 : fs[5]? = some (.int (iZ lw))) (hlw : -2147483648 ≤ lw ∧ lw < 2147483648) (kf tf hf2 wf gf sf kf0 rof : Nat → Int32) (rgk : rgI kf (-1) 420 6) (rgt : rgI tf (-1) 5 6) (wk od : Int) (hwk : 0 ≤ wk ∧ wk ≤ 400) (hod : 0 ≤ od ∧ od ≤ 20) (rgg0 : rgI gf 0 5 od) (hdr : 0 ≤ dr ∧ dr ≤ 65535) (hYI : YI ywf y1f y3f ypf n yr) (a : Int) (ha0 : -2147483648 ≤ a ∧ a < 2147483648) : WD (σ := ((Nat → Int) × Int64 × (Nat → Nat → Int32))) l yX1_turnByChance cX1_turnByChance 3 none 1 0 0 D k [.ref hL, .int (iZ a)] [(hL, .inr (1, [.ref hw1, .ref h, .ref hn1, .ref ro, .int (iZ dr), .int (iZ st), .int (iZ mi), .int (iZ we), .int (iZ tu), .int (iZ o0), .int (iZ le)])), (hw1, .inr (8, [.ref hs, .ref hc, .ref hy])), (hc, .inr (0, [.ref cw, .ref cg, .ref cs, .ref ck, .int (iZ wk), .int (iZ od)])), (cw, .inl (k 1, 401, .inl wf)), (cg, .inl (k 1, 20, .inl gf)), (cs, .inl (k 1, 20, .inl sf)), (ck, .inl (k 1, 120, .inl kf0)), (h, .inr (3, [.ref hs, .long op, .ref ha, .ref hl0])), (ha, .inl (k 1, 14436, .inl fa)), (hl0, .inl (k 1, 14436, .inl fl)), (hn1, .inr (2, [.ref hs, .ref h, .ref kn, .ref te, .ref ho, .ref co])), (kn, .inl (k 1, 6, .inl kf)), (te, .inl (k 1, 6, .inl tf)), (ho, .inl (k 1, 6, .inl hf2)), (ro, .inl (k 1, 60, .inl rof)), (hs, .inr (5, fs)), (hf, .inl (k 1, 36, .inl f)), (hg, .inl (k 1, 32, .inl g)), (hy, .inr (9, [.ref yw, .ref y1, .ref y2, .ref y3, .ref yp, .int (iZ th), .int (iZ ys), .int (iZ yr)])), (yw, .inl (k 1, 60, .inl ywf)), (y1, .inl (k 1, 60, .inl y1f)), (y2, .inl (k 1, 60, .inl y2f)), (y3, .inl (k 1, 60, .inl y3f)), (yp, .inl (k 1, 60, .inl ypf))] (fun _ => none) (fun u => u.1 4 = st ∧ BI u.1 u.2.2) (fun u => [(hL, .inr (1, [.ref hw1, .ref h, .ref hn1, .ref ro, .int (iZ (u.1 3)), .int (iZ (u.1 4)), .int (iZ (u.1 5)), .int (iZ (u.1 6)), .int (iZ (u.1 7)), .int (iZ (u.1 8)), .int (iZ (u.1 9))])), (hw1, .inr (8, [.ref hs, .ref hc, .ref hy])), (hc, .inr (0, [.ref cw, .ref cg, .ref cs, .ref ck, .int (iZ (u.1 1)), .int (iZ (u.1 2))])), (cw, .inl (k 1, 401, .inl (u.2.2 5))), (cg, .inl (k 1, 20, .inl (u.2.2 6))), (cs, .inl (k 1, 20, .inl (u.2.2 7))), (ck, .inl (k 1, 120, .inl (u.2.2 8))), (h, .inr (3, [.ref hs, .long u.2.1, .ref ha, .ref hl0])), (ha, .inl (k 1, 14436, .inl (u.2.2 0))), (hl0, .inl (k 1, 14436, .inl (u.2.2 1))), (hn1, .inr (2, [.ref hs, .ref h, .ref kn, .ref te, .ref ho, .ref co])), (kn, .inl (k 1, 6, .inl (u.2.2 2))), (te, .inl (k 1, 6, .inl (u.2.2 3))), (ho, .inl (k 1, 6, .inl (u.2.2 4))), (ro, .inl (k 1, 60, .inl (u.2.2 9))), (hs, .inr (5, fs)), (hf, .inl (k 1, 36, .inl f)), (hg, .inl (k 1, 32, .inl g)), (hy, .inr (9, [.ref yw, .ref y1, .ref y2, .ref y3, .ref yp, .int (iZ th), .int (iZ ys), .int (iZ yr)])), (yw, .inl (k 1, 60, .inl ywf)), (y1, .inl (k 1, 60, .inl y1f)), (y2, .inl (k 1, 60, .inl y2f)), (y3, .inl (k 1, 60, .inl y3f)), (yp, .inl (k 1, 60, .inl ypf))]) := by
  refine MW (by decide) (Nat.le_of_ble_eq_true rfl) (fun p e s m below meth c ls A hx hb hml hr hlocks hin hts hown hKK hP hD hS hA hl => ?_)
  have hK := hKK.1
  have hl : lv_has ls 3 [(0, .ref hL), (1, .int (iZ a))] := hl
  refine lv_iconst (v := iZ 0) hx hb dX1_turnByChance_0 (by decide) ?_
  refine lv_istore_n (lv' := [(2, .int (iZ 0)), (0, .ref hL), (1, .int (iZ a))]) hx hb dX1_turnByChance_1 rfl hl (by decide) rfl (fun ls hl => ?_)
  have HL1 : ∀ (fu : Nat) (i d2 t2 : Int) (w2 : Nat → Int32) (H : Heap) (locs : List Loc) (ls : Array Slot), (n + 1 - i) < (fu : Int) → 0 ≤ i → i ≤ n → 0 ≤ d2 → d2 ≤ 65535 → va_P D vwCl [(hL, .inr (1, [.ref hw1, .ref h, .ref hn1, .ref ro, .int (iZ d2), .int (iZ st), .int (iZ mi), .int (iZ we), .int (iZ t2), .int (iZ o0), .int (iZ le)])), (hw1, .inr (8, [.ref hs, .ref hc, .ref hy])), (hc, .inr (0, [.ref cw, .ref cg, .ref cs, .ref ck, .int (iZ wk), .int (iZ od)])), (cw, .inl (k 1, 401, .inl w2)), (cg, .inl (k 1, 20, .inl gf)), (cs, .inl (k 1, 20, .inl sf)), (ck, .inl (k 1, 120, .inl kf0)), (h, .inr (3, [.ref hs, .long op, .ref ha, .ref hl0])), (ha, .inl (k 1, 14436, .inl fa)), (hl0, .inl (k 1, 14436, .inl fl)), (hn1, .inr (2, [.ref hs, .ref h, .ref kn, .ref te, .ref ho, .ref co])), (kn, .inl (k 1, 6, .inl kf)), (te, .inl (k 1, 6, .inl tf)), (ho, .inl (k 1, 6, .inl hf2)), (ro, .inl (k 1, 60, .inl rof)), (hs, .inr (5, fs)), (hf, .inl (k 1, 36, .inl f)), (hg, .inl (k 1, 32, .inl g)), (hy, .inr (9, [.ref yw, .ref y1, .ref y2, .ref y3, .ref yp, .int (iZ th), .int (iZ ys), .int (iZ yr)])), (yw, .inl (k 1, 60, .inl ywf)), (y1, .inl (k 1, 60, .inl y1f)), (y2, .inl (k 1, 60, .inl y2f)), (y3, .inl (k 1, 60, .inl y3f)), (yp, .inl (k 1, 60, .inl ypf))] H → va_D A [(hL, .inr (1, [.ref hw1, .ref h, .ref hn1, .ref ro, .int (iZ d2), .int (iZ st), .int (iZ mi), .int (iZ we), .int (iZ t2), .int (iZ o0), .int (iZ le)])), (hw1, .inr (8, [.ref hs, .ref hc, .ref hy])), (hc, .inr (0, [.ref cw, .ref cg, .ref cs, .ref ck, .int (iZ wk), .int (iZ od)])), (cw, .inl (k 1, 401, .inl w2)), (cg, .inl (k 1, 20, .inl gf)), (cs, .inl (k 1, 20, .inl sf)), (ck, .inl (k 1, 120, .inl kf0)), (h, .inr (3, [.ref hs, .long op, .ref ha, .ref hl0])), (ha, .inl (k 1, 14436, .inl fa)), (hl0, .inl (k 1, 14436, .inl fl)), (hn1, .inr (2, [.ref hs, .ref h, .ref kn, .ref te, .ref ho, .ref co])), (kn, .inl (k 1, 6, .inl kf)), (te, .inl (k 1, 6, .inl tf)), (ho, .inl (k 1, 6, .inl hf2)), (ro, .inl (k 1, 60, .inl rof)), (hs, .inr (5, fs)), (hf, .inl (k 1, 36, .inl f)), (hg, .inl (k 1, 32, .inl g)), (hy, .inr (9, [.ref yw, .ref y1, .ref y2, .ref y3, .ref yp, .int (iZ th), .int (iZ ys), .int (iZ yr)])), (yw, .inl (k 1, 60, .inl ywf)), (y1, .inl (k 1, 60, .inl y1f)), (y2, .inl (k 1, 60, .inl y2f)), (y3, .inl (k 1, 60, .inl y3f)), (yp, .inl (k 1, 60, .inl ypf))] → va_S A s.heap H locs → lv_has ls 3 [(2, .int (iZ i)), (0, .ref hL), (1, .int (iZ a))] → W p l e (rj 1 0 0) s m [.ref hL, .int (iZ a)].toArray below meth c H locs 0 0 (MQ below (QW (σ := ((Nat → Int) × Int64 × (Nat → Nat → Int32))) (fun _ => none) (fun u => u.1 4 = st ∧ BI u.1 u.2.2) (fun u => [(hL, .inr (1, [.ref hw1, .ref h, .ref hn1, .ref ro, .int (iZ (u.1 3)), .int (iZ (u.1 4)), .int (iZ (u.1 5)), .int (iZ (u.1 6)), .int (iZ (u.1 7)), .int (iZ (u.1 8)), .int (iZ (u.1 9))])), (hw1, .inr (8, [.ref hs, .ref hc, .ref hy])), (hc, .inr (0, [.ref cw, .ref cg, .ref cs, .ref ck, .int (iZ (u.1 1)), .int (iZ (u.1 2))])), (cw, .inl (k 1, 401, .inl (u.2.2 5))), (cg, .inl (k 1, 20, .inl (u.2.2 6))), (cs, .inl (k 1, 20, .inl (u.2.2 7))), (ck, .inl (k 1, 120, .inl (u.2.2 8))), (h, .inr (3, [.ref hs, .long u.2.1, .ref ha, .ref hl0])), (ha, .inl (k 1, 14436, .inl (u.2.2 0))), (hl0, .inl (k 1, 14436, .inl (u.2.2 1))), (hn1, .inr (2, [.ref hs, .ref h, .ref kn, .ref te, .ref ho, .ref co])), (kn, .inl (k 1, 6, .inl (u.2.2 2))), (te, .inl (k 1, 6, .inl (u.2.2 3))), (ho, .inl (k 1, 6, .inl (u.2.2 4))), (ro, .inl (k 1, 60, .inl (u.2.2 9))), (hs, .inr (5, fs)), (hf, .inl (k 1, 36, .inl f)), (hg, .inl (k 1, 32, .inl g)), (hy, .inr (9, [.ref yw, .ref y1, .ref y2, .ref y3, .ref yp, .int (iZ th), .int (iZ ys), .int (iZ yr)])), (yw, .inl (k 1, 60, .inl ywf)), (y1, .inl (k 1, 60, .inl y1f)), (y2, .inl (k 1, 60, .inl y2f)), (y3, .inl (k 1, 60, .inl y3f)), (yp, .inl (k 1, 60, .inl ypf))]) D A) [.ref hL, .int (iZ a)].toArray s 0 0 A) (F0 m 2 ls []) := by
    intro fu
    induction fu with
    | zero => intro i d2 t2 w2 H locs ls hμ1 hi1 hi2 hd1 hd2 hP hD hS hl; exact absurd hμ1 (by omega)
    | succ fu ih1 =>
      intro i d2 t2 w2 H locs ls hμ1 hi1 hi2 hd1 hd2 hP hD hS hl
      refine lv_iload_n hx hb dX1_turnByChance_2 rfl (lv_at hl 0 rfl) ?_
      refine lv_aload_n hx hb dX1_turnByChance_3 rfl (lv_at hl 1 rfl) ?_
      refine va_get (D := D) (ci := 1) (v := .ref hw1) (C := RX1) (T := TX1) (N := 11) hx hb hts iX1 hown hK hP 0 rfl rfl 0 (by decide) (hts _ qf_X1_17) (fun _ h => h) rfl dX1_turnByChance_4 ?_
      refine va_get (D := D) (ci := 8) (v := .ref hs) (C := RX8) (T := TX8) (N := 3) hx hb hts iX8 hown hK hP 1 rfl rfl 0 (by decide) (hts _ qf_X1_48) (fun _ h => h) rfl dX1_turnByChance_7 ?_
      refine va_get (D := D) (ci := 5) (v := .int (iZ n)) (C := RX5) (T := TX5) (N := 7) hx hb hts iX5 hown hK hP 15 rfl rfl 3 (by decide) (hts _ qf_X1_52) (fun _ h => h) f3 dX1_turnByChance_10 ?_
      refine lv_icmp_ge (tgt := 76) hx hb dX1_turnByChance_13 (by decide) (fun c_1 => ?_) (fun c_1 => ?_)
      ·
        have c_1 := (zle (x := iZ n) (y := iZ i) rfl rfl ⟨by omega, by omega⟩ ⟨by omega, by omega⟩).mp c_1
        exact EWv hx hb hr hlocks hS (fun i => [0, wk, od, d2, st, mi, we, t2, o0, le].getD i 0, op, fun i => [fa, fl, kf, tf, hf2, w2, gf, sf, kf0, rof].getD i (fun _ => 0)) rfl ⟨rfl, show BI _ _ from ⟨show 0 ≤ wk ∧ wk ≤ 400 from ⟨by omega, by omega⟩, show 0 ≤ od ∧ od ≤ 20 from ⟨by omega, by omega⟩, show 0 ≤ d2 ∧ d2 ≤ 65535 from ⟨by omega, by omega⟩, rga, rgl, rgk, rgt, rgg0⟩⟩ (hP.sub [0, 1, 2, 3, 4, 5, 6, 7, 8, 9, 10, 11, 12, 13, 14, 15, 16, 17, 18, 19, 20, 21, 22, 23] rfl) (hD.sub [0, 1, 2, 3, 4, 5, 6, 7, 8, 9, 10, 11, 12, 13, 14, 15, 16, 17, 18, 19, 20, 21, 22, 23] rfl rfl) dX1_turnByChance_76
      ·
        have c_1 := mt (zle (x := iZ n) (y := iZ i) rfl rfl ⟨by omega, by omega⟩ ⟨by omega, by omega⟩).mpr c_1
        refine lv_aload_n hx hb dX1_turnByChance_16 rfl (lv_at hl 1 rfl) ?_
        refine lv_aload_n hx hb dX1_turnByChance_17 rfl (lv_at hl 1 rfl) ?_
        refine va_get (D := D) (ci := 1) (v := .int (iZ d2)) (C := RX1) (T := TX1) (N := 11) hx hb hts iX1 hown hK hP 0 rfl rfl 4 (by decide) (hts _ qf_X1_96) (fun _ h => h) rfl dX1_turnByChance_18 ?_
        refine lv_sipush (v := iZ 2893) hx hb dX1_turnByChance_21 (by decide) ?_
        refine lv_imul hx hb dX1_turnByChance_24 ?_
        refine lv_topi (fun x_2 ex_2 => ?_)
        obtain rfl : x_2 = iZ (d2 * 2893) := ex_2.trans (iZ_mul d2 2893)
        refine lv_sipush (v := iZ 11093) hx hb dX1_turnByChance_25 (by decide) ?_
        refine lv_iadd hx hb dX1_turnByChance_28 ?_
        refine lv_topi (fun x_3 ex_3 => ?_)
        obtain rfl : x_3 = iZ ((d2 * 2893) + 11093) := ex_3.trans (iZ_add (d2 * 2893) 11093)
        refine lv_ldc (own := RX1) (v := 65536) hx hb hown (hts _ qk_X1_157) dX1_turnByChance_29 ?_
        refine W.eq (g2 := F0 m 31 ls [.int (iZ 65536), .int (iZ ((d2 * 2893) + 11093)), .ref hL]) rfl ?_
        refine lv_irem hx hb dX1_turnByChance_31 (by rw [zne rfl ⟨by omega, by omega⟩]; omega) ?_
        refine lv_topi (fun x_4 ex_4 => ?_)
        obtain rfl : x_4 = iZ (((d2 * 2893) + 11093) % 65536) := ex_4.trans (iZ_rem (a := ((d2 * 2893) + 11093)) (b := 65536) (by omega) (by omega) (by omega) (by omega))
        refine va_put (D := D) (ci := 1) (v := .int (iZ (((d2 * 2893) + 11093) % 65536))) (ty := .int) (C := RX1) (T := TX1) (N := 11) hx hb hts iX1 tyX1 tyX1_ok nmX1 hown hK hP hD hS 0 rfl rfl 4 (by decide) (hts _ qf_X1_96) (fun _ h => h) rfl (by decide +kernel) rfl rfl (Nat.le_of_ble_eq_true rfl) dX1_turnByChance_32 (fun H locs hP hD hS => ?_)
        have hP : va_P D vwCl [(hL, .inr (1, [.ref hw1, .ref h, .ref hn1, .ref ro, .int (iZ (((d2 * 2893) + 11093) % 65536)), .int (iZ st), .int (iZ mi), .int (iZ we), .int (iZ t2), .int (iZ o0), .int (iZ le)])), (hw1, .inr (8, [.ref hs, .ref hc, .ref hy])), (hc, .inr (0, [.ref cw, .ref cg, .ref cs, .ref ck, .int (iZ wk), .int (iZ od)])), (cw, .inl (k 1, 401, .inl w2)), (cg, .inl (k 1, 20, .inl gf)), (cs, .inl (k 1, 20, .inl sf)), (ck, .inl (k 1, 120, .inl kf0)), (h, .inr (3, [.ref hs, .long op, .ref ha, .ref hl0])), (ha, .inl (k 1, 14436, .inl fa)), (hl0, .inl (k 1, 14436, .inl fl)), (hn1, .inr (2, [.ref hs, .ref h, .ref kn, .ref te, .ref ho, .ref co])), (kn, .inl (k 1, 6, .inl kf)), (te, .inl (k 1, 6, .inl tf)), (ho, .inl (k 1, 6, .inl hf2)), (ro, .inl (k 1, 60, .inl rof)), (hs, .inr (5, fs)), (hf, .inl (k 1, 36, .inl f)), (hg, .inl (k 1, 32, .inl g)), (hy, .inr (9, [.ref yw, .ref y1, .ref y2, .ref y3, .ref yp, .int (iZ th), .int (iZ ys), .int (iZ yr)])), (yw, .inl (k 1, 60, .inl ywf)), (y1, .inl (k 1, 60, .inl y1f)), (y2, .inl (k 1, 60, .inl y2f)), (y3, .inl (k 1, 60, .inl y3f)), (yp, .inl (k 1, 60, .inl ypf))] H := hP
        have hD : va_D A [(hL, .inr (1, [.ref hw1, .ref h, .ref hn1, .ref ro, .int (iZ (((d2 * 2893) + 11093) % 65536)), .int (iZ st), .int (iZ mi), .int (iZ we), .int (iZ t2), .int (iZ o0), .int (iZ le)])), (hw1, .inr (8, [.ref hs, .ref hc, .ref hy])), (hc, .inr (0, [.ref cw, .ref cg, .ref cs, .ref ck, .int (iZ wk), .int (iZ od)])), (cw, .inl (k 1, 401, .inl w2)), (cg, .inl (k 1, 20, .inl gf)), (cs, .inl (k 1, 20, .inl sf)), (ck, .inl (k 1, 120, .inl kf0)), (h, .inr (3, [.ref hs, .long op, .ref ha, .ref hl0])), (ha, .inl (k 1, 14436, .inl fa)), (hl0, .inl (k 1, 14436, .inl fl)), (hn1, .inr (2, [.ref hs, .ref h, .ref kn, .ref te, .ref ho, .ref co])), (kn, .inl (k 1, 6, .inl kf)), (te, .inl (k 1, 6, .inl tf)), (ho, .inl (k 1, 6, .inl hf2)), (ro, .inl (k 1, 60, .inl rof)), (hs, .inr (5, fs)), (hf, .inl (k 1, 36, .inl f)), (hg, .inl (k 1, 32, .inl g)), (hy, .inr (9, [.ref yw, .ref y1, .ref y2, .ref y3, .ref yp, .int (iZ th), .int (iZ ys), .int (iZ yr)])), (yw, .inl (k 1, 60, .inl ywf)), (y1, .inl (k 1, 60, .inl y1f)), (y2, .inl (k 1, 60, .inl y2f)), (y3, .inl (k 1, 60, .inl y3f)), (yp, .inl (k 1, 60, .inl ypf))] := hD
        refine lv_aload_n hx hb dX1_turnByChance_35 rfl (lv_at hl 1 rfl) ?_
        refine va_get (D := D) (ci := 1) (v := .int (iZ (((d2 * 2893) + 11093) % 65536))) (C := RX1) (T := TX1) (N := 11) hx hb hts iX1 hown hK hP 0 rfl rfl 4 (by decide) (hts _ qf_X1_96) (fun _ h => h) rfl dX1_turnByChance_36 ?_
        refine lv_bipush (v := iZ 8) hx hb dX1_turnByChance_39 (by decide) ?_
        refine lv_idiv hx hb dX1_turnByChance_41 (by rw [zne rfl ⟨by omega, by omega⟩]; omega) ?_
        have hd_41 := zdiv_b (a := (((d2 * 2893) + 11093) % 65536)) (b := 8) (by omega) (by omega)
        refine lv_topi (fun x_5 ex_5 => ?_)
        obtain rfl : x_5 = iZ ((((d2 * 2893) + 11093) % 65536) / 8) := ex_5.trans (iZ_div (a := (((d2 * 2893) + 11093) % 65536)) (b := 8) (by omega) (by omega) (by omega) (by omega))
        refine lv_bipush (v := iZ 16) hx hb dX1_turnByChance_42 (by decide) ?_
        refine lv_irem hx hb dX1_turnByChance_44 (by rw [zne rfl ⟨by omega, by omega⟩]; omega) ?_
        refine lv_topi (fun x_6 ex_6 => ?_)
        obtain rfl : x_6 = iZ (((((d2 * 2893) + 11093) % 65536) / 8) % 16) := ex_6.trans (iZ_rem (a := ((((d2 * 2893) + 11093) % 65536) / 8)) (b := 16) (by omega) (by omega) (by omega) (by omega))
        refine lv_iload_n hx hb dX1_turnByChance_45 rfl (lv_at hl 2 rfl) ?_
        refine lv_icmp_ge (tgt := 70) hx hb dX1_turnByChance_46 (by decide) (fun c_7 => ?_) (fun c_7 => ?_)
        ·
          have c_7 := (zle (x := iZ a) (y := iZ (((((d2 * 2893) + 11093) % 65536) / 8) % 16)) rfl rfl ⟨by omega, by omega⟩ ⟨by omega, by omega⟩).mp c_7
          refine lv_iinc (v := iZ (i + 1)) (lv' := [(2, .int (iZ (i + 1))), (0, .ref hL), (1, .int (iZ a))]) hx hb dX1_turnByChance_70 hl (k := 0) rfl (iZ_add i 1) (by decide) rfl (fun ls hl => ?_)
          refine lv_goto (tgt := 2) hx hb dX1_turnByChance_73 (by decide) ?_
          exact ih1 _ _ _ _ _ _ _ (by omega) (by omega) (by omega) (by omega) (by omega) (hP.sub [0, 1, 2, 3, 4, 5, 6, 7, 8, 9, 10, 11, 12, 13, 14, 15, 16, 17, 18, 19, 20, 21, 22, 23] rfl) (hD.sub [0, 1, 2, 3, 4, 5, 6, 7, 8, 9, 10, 11, 12, 13, 14, 15, 16, 17, 18, 19, 20, 21, 22, 23] rfl rfl) hS (lv_sub hl [0, 1, 2] rfl)
        ·
          have c_7 := mt (zle (x := iZ a) (y := iZ (((((d2 * 2893) + 11093) % 65536) / 8) % 16)) rfl rfl ⟨by omega, by omega⟩ ⟨by omega, by omega⟩).mpr c_7
          refine lv_aload_n hx hb dX1_turnByChance_49 rfl (lv_at hl 1 rfl) ?_
          refine va_get (D := D) (ci := 1) (v := .ref hw1) (C := RX1) (T := TX1) (N := 11) hx hb hts iX1 hown hK hP 0 rfl rfl 0 (by decide) (hts _ qf_X1_17) (fun _ h => h) rfl dX1_turnByChance_50 ?_
          refine va_get (D := D) (ci := 8) (v := .ref hc) (C := RX8) (T := TX8) (N := 3) hx hb hts iX8 hown hK hP 1 rfl rfl 1 (by decide) (hts _ qf_X1_29) (fun _ h => h) rfl dX1_turnByChance_53 ?_
          refine lv_iload_n hx hb dX1_turnByChance_56 rfl (lv_at hl 0 rfl) ?_
          refine CWV (As := [.int (iZ i)]) (rest := []) (wc := [(hc, .inr (0, [.ref cw, .ref cg, .ref cs, .ref ck, .int (iZ wk), .int (iZ od)])), (cw, .inl (k 1, 401, .inl w2))]) (wr := [(hL, .inr (1, [.ref hw1, .ref h, .ref hn1, .ref ro, .int (iZ (((d2 * 2893) + 11093) % 65536)), .int (iZ st), .int (iZ mi), .int (iZ we), .int (iZ t2), .int (iZ o0), .int (iZ le)])), (hw1, .inr (8, [.ref hs, .ref hc, .ref hy])), (cg, .inl (k 1, 20, .inl gf)), (cs, .inl (k 1, 20, .inl sf)), (ck, .inl (k 1, 120, .inl kf0)), (h, .inr (3, [.ref hs, .long op, .ref ha, .ref hl0])), (ha, .inl (k 1, 14436, .inl fa)), (hl0, .inl (k 1, 14436, .inl fl)), (hn1, .inr (2, [.ref hs, .ref h, .ref kn, .ref te, .ref ho, .ref co])), (kn, .inl (k 1, 6, .inl kf)), (te, .inl (k 1, 6, .inl tf)), (ho, .inl (k 1, 6, .inl hf2)), (ro, .inl (k 1, 60, .inl rof)), (hs, .inr (5, fs)), (hf, .inl (k 1, 36, .inl f)), (hg, .inl (k 1, 32, .inl g)), (hy, .inr (9, [.ref yw, .ref y1, .ref y2, .ref y3, .ref yp, .int (iZ th), .int (iZ ys), .int (iZ yr)])), (yw, .inl (k 1, 60, .inl ywf)), (y1, .inl (k 1, 60, .inl y1f)), (y2, .inl (k 1, 60, .inl y2f)), (y3, .inl (k 1, 60, .inl y3f)), (yp, .inl (k 1, 60, .inl ypf))]) hx hb hml hown hts hKK hP hD hS hA (k_turnRound l D k hc cw [.ref cw, .ref cg, .ref cs, .ref ck, .int (iZ wk), .int (iZ od)] rfl w2 wk rfl ⟨by omega, by omega⟩ i) ci_X0_turnRound qm_X1_158 ⟨Nat.le_of_ble_eq_true rfl, Nat.le_of_ble_eq_true rfl⟩ ⟨Nat.le_of_ble_eq_true rfl, Nat.le_of_ble_eq_true rfl⟩ [2, 3] [0, 1, 4, 5, 6, 7, 8, 9, 10, 11, 12, 13, 14, 15, 16, 17, 18, 19, 20, 21, 22, 23] rfl rfl rfl rfl rfl (by decide) 0 rfl rfl rfl hl.1 rfl (Nat.le_of_ble_eq_true rfl) dX1_turnByChance_57 (fun u_8 H locs hφ hP hD hS => ?_)
          have hP : va_P D vwCl [(hL, .inr (1, [.ref hw1, .ref h, .ref hn1, .ref ro, .int (iZ (((d2 * 2893) + 11093) % 65536)), .int (iZ st), .int (iZ mi), .int (iZ we), .int (iZ t2), .int (iZ o0), .int (iZ le)])), (hw1, .inr (8, [.ref hs, .ref hc, .ref hy])), (cg, .inl (k 1, 20, .inl gf)), (cs, .inl (k 1, 20, .inl sf)), (ck, .inl (k 1, 120, .inl kf0)), (h, .inr (3, [.ref hs, .long op, .ref ha, .ref hl0])), (ha, .inl (k 1, 14436, .inl fa)), (hl0, .inl (k 1, 14436, .inl fl)), (hn1, .inr (2, [.ref hs, .ref h, .ref kn, .ref te, .ref ho, .ref co])), (kn, .inl (k 1, 6, .inl kf)), (te, .inl (k 1, 6, .inl tf)), (ho, .inl (k 1, 6, .inl hf2)), (ro, .inl (k 1, 60, .inl rof)), (hs, .inr (5, fs)), (hf, .inl (k 1, 36, .inl f)), (hg, .inl (k 1, 32, .inl g)), (hy, .inr (9, [.ref yw, .ref y1, .ref y2, .ref y3, .ref yp, .int (iZ th), .int (iZ ys), .int (iZ yr)])), (yw, .inl (k 1, 60, .inl ywf)), (y1, .inl (k 1, 60, .inl y1f)), (y2, .inl (k 1, 60, .inl y2f)), (y3, .inl (k 1, 60, .inl y3f)), (yp, .inl (k 1, 60, .inl ypf)), (hc, .inr (0, [.ref cw, .ref cg, .ref cs, .ref ck, .int (iZ wk), .int (iZ od)])), (cw, .inl (k 1, 401, .inl u_8))] H := hP
          have hD : va_D A [(hL, .inr (1, [.ref hw1, .ref h, .ref hn1, .ref ro, .int (iZ (((d2 * 2893) + 11093) % 65536)), .int (iZ st), .int (iZ mi), .int (iZ we), .int (iZ t2), .int (iZ o0), .int (iZ le)])), (hw1, .inr (8, [.ref hs, .ref hc, .ref hy])), (cg, .inl (k 1, 20, .inl gf)), (cs, .inl (k 1, 20, .inl sf)), (ck, .inl (k 1, 120, .inl kf0)), (h, .inr (3, [.ref hs, .long op, .ref ha, .ref hl0])), (ha, .inl (k 1, 14436, .inl fa)), (hl0, .inl (k 1, 14436, .inl fl)), (hn1, .inr (2, [.ref hs, .ref h, .ref kn, .ref te, .ref ho, .ref co])), (kn, .inl (k 1, 6, .inl kf)), (te, .inl (k 1, 6, .inl tf)), (ho, .inl (k 1, 6, .inl hf2)), (ro, .inl (k 1, 60, .inl rof)), (hs, .inr (5, fs)), (hf, .inl (k 1, 36, .inl f)), (hg, .inl (k 1, 32, .inl g)), (hy, .inr (9, [.ref yw, .ref y1, .ref y2, .ref y3, .ref yp, .int (iZ th), .int (iZ ys), .int (iZ yr)])), (yw, .inl (k 1, 60, .inl ywf)), (y1, .inl (k 1, 60, .inl y1f)), (y2, .inl (k 1, 60, .inl y2f)), (y3, .inl (k 1, 60, .inl y3f)), (yp, .inl (k 1, 60, .inl ypf)), (hc, .inr (0, [.ref cw, .ref cg, .ref cs, .ref ck, .int (iZ wk), .int (iZ od)])), (cw, .inl (k 1, 401, .inl u_8))] := hD
          refine W.eq (g2 := F0 m 60 ls []) rfl ?_
          refine lv_aload_n hx hb dX1_turnByChance_60 rfl (lv_at hl 1 rfl) ?_
          refine lv_dup hx hb dX1_turnByChance_61 rfl ?_
          refine va_get (D := D) (ci := 1) (v := .int (iZ t2)) (C := RX1) (T := TX1) (N := 11) hx hb hts iX1 hown hK hP 0 rfl rfl 8 (by decide) (hts _ qf_X1_108) (fun _ h => h) rfl dX1_turnByChance_62 ?_
          refine lv_iconst (v := iZ 1) hx hb dX1_turnByChance_65 (by decide) ?_
          refine lv_iadd hx hb dX1_turnByChance_66 ?_
          refine lv_topi (fun x_9 ex_9 => ?_)
          obtain rfl : x_9 = iZ (t2 + 1) := ex_9.trans (iZ_add t2 1)
          refine va_put (D := D) (ci := 1) (v := .int (iZ (t2 + 1))) (ty := .int) (C := RX1) (T := TX1) (N := 11) hx hb hts iX1 tyX1 tyX1_ok nmX1 hown hK hP hD hS 0 rfl rfl 8 (by decide) (hts _ qf_X1_108) (fun _ h => h) rfl (by decide +kernel) rfl rfl (Nat.le_of_ble_eq_true rfl) dX1_turnByChance_67 (fun H locs hP hD hS => ?_)
          have hP : va_P D vwCl [(hL, .inr (1, [.ref hw1, .ref h, .ref hn1, .ref ro, .int (iZ (((d2 * 2893) + 11093) % 65536)), .int (iZ st), .int (iZ mi), .int (iZ we), .int (iZ (t2 + 1)), .int (iZ o0), .int (iZ le)])), (hw1, .inr (8, [.ref hs, .ref hc, .ref hy])), (cg, .inl (k 1, 20, .inl gf)), (cs, .inl (k 1, 20, .inl sf)), (ck, .inl (k 1, 120, .inl kf0)), (h, .inr (3, [.ref hs, .long op, .ref ha, .ref hl0])), (ha, .inl (k 1, 14436, .inl fa)), (hl0, .inl (k 1, 14436, .inl fl)), (hn1, .inr (2, [.ref hs, .ref h, .ref kn, .ref te, .ref ho, .ref co])), (kn, .inl (k 1, 6, .inl kf)), (te, .inl (k 1, 6, .inl tf)), (ho, .inl (k 1, 6, .inl hf2)), (ro, .inl (k 1, 60, .inl rof)), (hs, .inr (5, fs)), (hf, .inl (k 1, 36, .inl f)), (hg, .inl (k 1, 32, .inl g)), (hy, .inr (9, [.ref yw, .ref y1, .ref y2, .ref y3, .ref yp, .int (iZ th), .int (iZ ys), .int (iZ yr)])), (yw, .inl (k 1, 60, .inl ywf)), (y1, .inl (k 1, 60, .inl y1f)), (y2, .inl (k 1, 60, .inl y2f)), (y3, .inl (k 1, 60, .inl y3f)), (yp, .inl (k 1, 60, .inl ypf)), (hc, .inr (0, [.ref cw, .ref cg, .ref cs, .ref ck, .int (iZ wk), .int (iZ od)])), (cw, .inl (k 1, 401, .inl u_8))] H := hP
          have hD : va_D A [(hL, .inr (1, [.ref hw1, .ref h, .ref hn1, .ref ro, .int (iZ (((d2 * 2893) + 11093) % 65536)), .int (iZ st), .int (iZ mi), .int (iZ we), .int (iZ (t2 + 1)), .int (iZ o0), .int (iZ le)])), (hw1, .inr (8, [.ref hs, .ref hc, .ref hy])), (cg, .inl (k 1, 20, .inl gf)), (cs, .inl (k 1, 20, .inl sf)), (ck, .inl (k 1, 120, .inl kf0)), (h, .inr (3, [.ref hs, .long op, .ref ha, .ref hl0])), (ha, .inl (k 1, 14436, .inl fa)), (hl0, .inl (k 1, 14436, .inl fl)), (hn1, .inr (2, [.ref hs, .ref h, .ref kn, .ref te, .ref ho, .ref co])), (kn, .inl (k 1, 6, .inl kf)), (te, .inl (k 1, 6, .inl tf)), (ho, .inl (k 1, 6, .inl hf2)), (ro, .inl (k 1, 60, .inl rof)), (hs, .inr (5, fs)), (hf, .inl (k 1, 36, .inl f)), (hg, .inl (k 1, 32, .inl g)), (hy, .inr (9, [.ref yw, .ref y1, .ref y2, .ref y3, .ref yp, .int (iZ th), .int (iZ ys), .int (iZ yr)])), (yw, .inl (k 1, 60, .inl ywf)), (y1, .inl (k 1, 60, .inl y1f)), (y2, .inl (k 1, 60, .inl y2f)), (y3, .inl (k 1, 60, .inl y3f)), (yp, .inl (k 1, 60, .inl ypf)), (hc, .inr (0, [.ref cw, .ref cg, .ref cs, .ref ck, .int (iZ wk), .int (iZ od)])), (cw, .inl (k 1, 401, .inl u_8))] := hD
          refine lv_iinc (v := iZ (i + 1)) (lv' := [(2, .int (iZ (i + 1))), (0, .ref hL), (1, .int (iZ a))]) hx hb dX1_turnByChance_70 hl (k := 0) rfl (iZ_add i 1) (by decide) rfl (fun ls hl => ?_)
          refine lv_goto (tgt := 2) hx hb dX1_turnByChance_73 (by decide) ?_
          exact ih1 _ _ _ _ _ _ _ (by omega) (by omega) (by omega) (by omega) (by omega) (hP.sub [0, 1, 22, 23, 2, 3, 4, 5, 6, 7, 8, 9, 10, 11, 12, 13, 14, 15, 16, 17, 18, 19, 20, 21] rfl) (hD.sub [0, 1, 22, 23, 2, 3, 4, 5, 6, 7, 8, 9, 10, 11, 12, 13, 14, 15, 16, 17, 18, 19, 20, 21] rfl rfl) hS (lv_sub hl [0, 1, 2] rfl)
  exact HL1 8 _ _ _ _ _ _ _ (by omega) (by omega) (by omega) (by omega) (by omega) (hP.sub [0, 1, 2, 3, 4, 5, 6, 7, 8, 9, 10, 11, 12, 13, 14, 15, 16, 17, 18, 19, 20, 21, 22, 23] rfl) (hD.sub [0, 1, 2, 3, 4, 5, 6, 7, 8, 9, 10, 11, 12, 13, 14, 15, 16, 17, 18, 19, 20, 21, 22, 23] rfl rfl) hS (lv_sub hl [0, 1, 2] rfl)
set_option maxHeartbeats 4000000 in
set_option maxRecDepth 100000 in
theorem k_behindEnd (l : Launch) (D : va_G) (k : Nat → ClassId) (hL hw1 hc hy hn1 ro cw cg cs ck kn te ho co yw y1 y2 y3 yp : Nat) (dr st mi we tu o0 le th ys yr : Int) (ywf y1f y2f y3f ypf : Nat → Int32) (hyr : 0 ≤ yr ∧ yr ≤ 60) (h hs ha hl0 : Nat) (op : Int64) (fa fl : Nat → Int32) (rga : rgI fa (-2) 420 14436) (rgl : rgI fl (-2) 400 14436) (hf hg : Nat) (fs : List Value) (f1 : fs[1]? = some (.ref hf)) (f2 : fs[2]? = some (.ref hg)) (f g : Nat → Int32) (n : Int) (hn : n ≤ 6) (hx0 : FXI f n) (ni : Int) (f4 : fs[4]? = some (.int (iZ ni))) (hni : 0 ≤ ni ∧ ni ≤ 8) (f3 : fs[3]? = some (.int (iZ n))) (hn0 : 0 ≤ n) (lw : Int) (f5 : fs[5]? = some (.int (iZ lw))) (hlw : -2147483648 ≤ lw ∧ lw < 2147483648) (kf tf hf2 wf gf sf kf0 rof : Nat → Int32) (rgk : rgI kf (-1) 420 6) (rgt : rgI tf (-1) 5 6) (wk od : Int) (hwk : 0 ≤ wk ∧ wk ≤ 400) (hod : 0 ≤ od ∧ od ≤ 20) (rgg0 : rgI gf 0 5 od) (hdr : 0 ≤ dr ∧ dr ≤ 65535) (hYI : YI ywf y1f y3f ypf n yr) (a : Int) (ha0 : 0 ≤ a ∧ a < yr) (hE : gz ywf a = 23) : WD (σ := ((Nat → Int) × Int64 × (Nat → Nat → Int32))) l yX1_behindEnd cX1_behindEnd 3 (some .int) 0 0 0 D k [.ref hL, .int (iZ a)] [(hL, .inr (1, [.ref hw1, .ref h, .ref hn1, .ref ro, .int (iZ dr), .int (iZ st), .int (iZ mi), .int (iZ we), .int (iZ tu), .int (iZ o0), .int (iZ le)])), (hw1, .inr (8, [.ref hs, .ref hc, .ref hy])), (hc, .inr (0, [.ref cw, .ref cg, .ref cs, .ref ck, .int (iZ wk), .int (iZ od)])), (cw, .inl (k 1, 401, .inl wf)), (cg, .inl (k 1, 20, .inl gf)), (cs, .inl (k 1, 20, .inl sf)), (ck, .inl (k 1, 120, .inl kf0)), (h, .inr (3, [.ref hs, .long op, .ref ha, .ref hl0])), (ha, .inl (k 1, 14436, .inl fa)), (hl0, .inl (k 1, 14436, .inl fl)), (hn1, .inr (2, [.ref hs, .ref h, .ref kn, .ref te, .ref ho, .ref co])), (kn, .inl (k 1, 6, .inl kf)), (te, .inl (k 1, 6, .inl tf)), (ho, .inl (k 1, 6, .inl hf2)), (ro, .inl (k 1, 60, .inl rof)), (hs, .inr (5, fs)), (hf, .inl (k 1, 36, .inl f)), (hg, .inl (k 1, 32, .inl g)), (hy, .inr (9, [.ref yw, .ref y1, .ref y2, .ref y3, .ref yp, .int (iZ th), .int (iZ ys), .int (iZ yr)])), (yw, .inl (k 1, 60, .inl ywf)), (y1, .inl (k 1, 60, .inl y1f)), (y2, .inl (k 1, 60, .inl y2f)), (y3, .inl (k 1, 60, .inl y3f)), (yp, .inl (k 1, 60, .inl ypf))] (fun u => some (.int (iZ (u.1 0)))) (fun u => ((0 ≤ u.1 0 ∧ u.1 0 ≤ yr) ∧ u.1 4 = st) ∧ BI u.1 u.2.2) (fun u => [(hL, .inr (1, [.ref hw1, .ref h, .ref hn1, .ref ro, .int (iZ (u.1 3)), .int (iZ (u.1 4)), .int (iZ (u.1 5)), .int (iZ (u.1 6)), .int (iZ (u.1 7)), .int (iZ (u.1 8)), .int (iZ (u.1 9))])), (hw1, .inr (8, [.ref hs, .ref hc, .ref hy])), (hc, .inr (0, [.ref cw, .ref cg, .ref cs, .ref ck, .int (iZ (u.1 1)), .int (iZ (u.1 2))])), (cw, .inl (k 1, 401, .inl (u.2.2 5))), (cg, .inl (k 1, 20, .inl (u.2.2 6))), (cs, .inl (k 1, 20, .inl (u.2.2 7))), (ck, .inl (k 1, 120, .inl (u.2.2 8))), (h, .inr (3, [.ref hs, .long u.2.1, .ref ha, .ref hl0])), (ha, .inl (k 1, 14436, .inl (u.2.2 0))), (hl0, .inl (k 1, 14436, .inl (u.2.2 1))), (hn1, .inr (2, [.ref hs, .ref h, .ref kn, .ref te, .ref ho, .ref co])), (kn, .inl (k 1, 6, .inl (u.2.2 2))), (te, .inl (k 1, 6, .inl (u.2.2 3))), (ho, .inl (k 1, 6, .inl (u.2.2 4))), (ro, .inl (k 1, 60, .inl (u.2.2 9))), (hs, .inr (5, fs)), (hf, .inl (k 1, 36, .inl f)), (hg, .inl (k 1, 32, .inl g)), (hy, .inr (9, [.ref yw, .ref y1, .ref y2, .ref y3, .ref yp, .int (iZ th), .int (iZ ys), .int (iZ yr)])), (yw, .inl (k 1, 60, .inl ywf)), (y1, .inl (k 1, 60, .inl y1f)), (y2, .inl (k 1, 60, .inl y2f)), (y3, .inl (k 1, 60, .inl y3f)), (yp, .inl (k 1, 60, .inl ypf))]) := by
  refine MW (by decide) (Nat.le_of_ble_eq_true rfl) (fun p e s m below meth c ls A hx hb hml hr hlocks hin hts hown hKK hP hD hS hA hl => ?_)
  have hK := hKK.1
  have hl : lv_has ls 3 [(0, .ref hL), (1, .int (iZ a))] := hl
  have hy0 := (hYI a ha0.1 ha0.2).2.2 (Or.inr hE)
  refine lv_aload_n hx hb dX1_behindEnd_0 rfl (lv_at hl 0 rfl) ?_
  refine va_get (D := D) (ci := 1) (v := .ref hw1) (C := RX1) (T := TX1) (N := 11) hx hb hts iX1 hown hK hP 0 rfl rfl 0 (by decide) (hts _ qf_X1_17) (fun _ h => h) rfl dX1_behindEnd_1 ?_
  refine va_get (D := D) (ci := 8) (v := .ref hy) (C := RX8) (T := TX8) (N := 3) hx hb hts iX8 hown hK hP 1 rfl rfl 2 (by decide) (hts _ qf_X1_92) (fun _ h => h) rfl dX1_behindEnd_4 ?_
  refine va_get (D := D) (ci := 9) (v := .ref yp) (C := RX9) (T := TX9) (N := 8) hx hb hts iX9 hown hK hP 18 rfl rfl 4 (by decide) (hts _ qf_X1_131) (fun _ h => h) rfl dX1_behindEnd_7 ?_
  refine lv_iload_n hx hb dX1_behindEnd_10 rfl (lv_at hl 1 rfl) ?_
  refine va_iald hx hb hK hP 23 1 rfl rfl (zin (e := a) (n := 60) ⟨by omega, by omega⟩ (by decide)) dX1_behindEnd_11 ?_
  refine lv_topi (fun x_1 ex_1 => ?_)
  obtain rfl : x_1 = iZ (gz ypf a) := ex_1.trans (gz_eq ⟨by omega, by omega⟩)
  have h_2 := gz_rg ypf a
  refine lv_istore_n (lv' := [(2, .int (iZ (gz ypf a))), (0, .ref hL), (1, .int (iZ a))]) hx hb dX1_behindEnd_12 rfl hl (by decide) rfl (fun ls hl => ?_)
  refine lv_aload_n hx hb dX1_behindEnd_13 rfl (lv_at hl 1 rfl) ?_
  refine va_get (D := D) (ci := 1) (v := .ref hw1) (C := RX1) (T := TX1) (N := 11) hx hb hts iX1 hown hK hP 0 rfl rfl 0 (by decide) (hts _ qf_X1_17) (fun _ h => h) rfl dX1_behindEnd_14 ?_
  refine va_get (D := D) (ci := 8) (v := .ref hy) (C := RX8) (T := TX8) (N := 3) hx hb hts iX8 hown hK hP 1 rfl rfl 2 (by decide) (hts _ qf_X1_92) (fun _ h => h) rfl dX1_behindEnd_17 ?_
  refine va_get (D := D) (ci := 9) (v := .ref yw) (C := RX9) (T := TX9) (N := 8) hx hb hts iX9 hown hK hP 18 rfl rfl 0 (by decide) (hts _ qf_X1_121) (fun _ h => h) rfl dX1_behindEnd_20 ?_
  refine lv_iload_n hx hb dX1_behindEnd_23 rfl (lv_at hl 0 rfl) ?_
  refine va_iald hx hb hK hP 19 1 rfl rfl (zin (e := (gz ypf a)) (n := 60) ⟨by omega, by omega⟩ (by decide)) dX1_behindEnd_24 ?_
  refine lv_topi (fun x_3 ex_3 => ?_)
  obtain rfl : x_3 = iZ (gz ywf (gz ypf a)) := ex_3.trans (gz_eq ⟨by omega, by omega⟩)
  have h_4 := gz_rg ywf (gz ypf a)
  refine lv_bipush (v := iZ 22) hx hb dX1_behindEnd_25 (by decide) ?_
  refine lv_icmp_ne (tgt := 53) hx hb dX1_behindEnd_27 (by decide) (fun c_5 => ?_) (fun c_5 => ?_)
  ·
    have c_5 := mt (zeq (x := iZ (gz ywf (gz ypf a))) (y := iZ 22) rfl rfl ⟨by omega, by omega⟩ ⟨by omega, by omega⟩).mpr c_5
    refine lv_iload_n hx hb dX1_behindEnd_53 rfl (lv_at hl 2 rfl) ?_
    refine lv_iconst (v := iZ 1) hx hb dX1_behindEnd_54 (by decide) ?_
    refine lv_iadd hx hb dX1_behindEnd_55 ?_
    refine lv_topi (fun x_6 ex_6 => ?_)
    obtain rfl : x_6 = iZ (a + 1) := ex_6.trans (iZ_add a 1)
    exact EWi hx hb hr hlocks hS (fun i => [(a + 1), wk, od, dr, st, mi, we, tu, o0, le].getD i 0, op, fun i => [fa, fl, kf, tf, hf2, wf, gf, sf, kf0, rof].getD i (fun _ => 0)) rfl ⟨⟨show 0 ≤ (a + 1) ∧ (a + 1) ≤ yr from ⟨by omega, by omega⟩, rfl⟩, show BI _ _ from ⟨show 0 ≤ wk ∧ wk ≤ 400 from ⟨by omega, by omega⟩, show 0 ≤ od ∧ od ≤ 20 from ⟨by omega, by omega⟩, show 0 ≤ dr ∧ dr ≤ 65535 from ⟨by omega, by omega⟩, rga, rgl, rgk, rgt, rgg0⟩⟩ (hP.sub [0, 1, 2, 3, 4, 5, 6, 7, 8, 9, 10, 11, 12, 13, 14, 15, 16, 17, 18, 19, 20, 21, 22, 23] rfl) (hD.sub [0, 1, 2, 3, 4, 5, 6, 7, 8, 9, 10, 11, 12, 13, 14, 15, 16, 17, 18, 19, 20, 21, 22, 23] rfl rfl) dX1_behindEnd_56
  ·
    have c_5 := (zeq (x := iZ (gz ywf (gz ypf a))) (y := iZ 22) rfl rfl ⟨by omega, by omega⟩ ⟨by omega, by omega⟩).mp c_5
    refine lv_aload_n hx hb dX1_behindEnd_30 rfl (lv_at hl 1 rfl) ?_
    refine va_get (D := D) (ci := 1) (v := .ref ro) (C := RX1) (T := TX1) (N := 11) hx hb hts iX1 hown hK hP 0 rfl rfl 3 (by decide) (hts _ qf_X1_11) (fun _ h => h) rfl dX1_behindEnd_31 ?_
    refine lv_iload_n hx hb dX1_behindEnd_34 rfl (lv_at hl 0 rfl) ?_
    refine lv_dup2_11 hx hb dX1_behindEnd_35 rfl rfl ?_
    refine va_iald hx hb hK hP 14 1 rfl rfl (zin (e := (gz ypf a)) (n := 60) ⟨by omega, by omega⟩ (by decide)) dX1_behindEnd_36 ?_
    refine lv_topi (fun x_7 ex_7 => ?_)
    obtain rfl : x_7 = iZ (gz rof (gz ypf a)) := ex_7.trans (gz_eq ⟨by omega, by omega⟩)
    have h_8 := gz_rg rof (gz ypf a)
    refine lv_iconst (v := iZ 1) hx hb dX1_behindEnd_37 (by decide) ?_
    refine lv_isub hx hb dX1_behindEnd_38 ?_
    refine lv_topi (fun x_10 ex_10 => ?_)
    obtain ⟨z_9, hz_9, hz_9a, hz_9b⟩ := i32_z x_10
    subst hz_9
    refine va_iast hx hb hK hP hD hS 14 1 rfl rfl (zin (e := (gz ypf a)) (n := 60) ⟨by omega, by omega⟩ (by decide)) dX1_behindEnd_39 (fun H locs hP hD hS => ?_)
    obtain ⟨f_11, hf_11⟩ : ∃ gg9, gg9 = upd rof (iZ (gz ypf a)).toNatClampNeg (iZ z_9) := ⟨_, rfl⟩
    rw [← hf_11] at hP hD
    have hP : va_P D vwCl [(hL, .inr (1, [.ref hw1, .ref h, .ref hn1, .ref ro, .int (iZ dr), .int (iZ st), .int (iZ mi), .int (iZ we), .int (iZ tu), .int (iZ o0), .int (iZ le)])), (hw1, .inr (8, [.ref hs, .ref hc, .ref hy])), (hc, .inr (0, [.ref cw, .ref cg, .ref cs, .ref ck, .int (iZ wk), .int (iZ od)])), (cw, .inl (k 1, 401, .inl wf)), (cg, .inl (k 1, 20, .inl gf)), (cs, .inl (k 1, 20, .inl sf)), (ck, .inl (k 1, 120, .inl kf0)), (h, .inr (3, [.ref hs, .long op, .ref ha, .ref hl0])), (ha, .inl (k 1, 14436, .inl fa)), (hl0, .inl (k 1, 14436, .inl fl)), (hn1, .inr (2, [.ref hs, .ref h, .ref kn, .ref te, .ref ho, .ref co])), (kn, .inl (k 1, 6, .inl kf)), (te, .inl (k 1, 6, .inl tf)), (ho, .inl (k 1, 6, .inl hf2)), (ro, .inl (k 1, 60, .inl f_11)), (hs, .inr (5, fs)), (hf, .inl (k 1, 36, .inl f)), (hg, .inl (k 1, 32, .inl g)), (hy, .inr (9, [.ref yw, .ref y1, .ref y2, .ref y3, .ref yp, .int (iZ th), .int (iZ ys), .int (iZ yr)])), (yw, .inl (k 1, 60, .inl ywf)), (y1, .inl (k 1, 60, .inl y1f)), (y2, .inl (k 1, 60, .inl y2f)), (y3, .inl (k 1, 60, .inl y3f)), (yp, .inl (k 1, 60, .inl ypf))] H := hP
    have hD : va_D A [(hL, .inr (1, [.ref hw1, .ref h, .ref hn1, .ref ro, .int (iZ dr), .int (iZ st), .int (iZ mi), .int (iZ we), .int (iZ tu), .int (iZ o0), .int (iZ le)])), (hw1, .inr (8, [.ref hs, .ref hc, .ref hy])), (hc, .inr (0, [.ref cw, .ref cg, .ref cs, .ref ck, .int (iZ wk), .int (iZ od)])), (cw, .inl (k 1, 401, .inl wf)), (cg, .inl (k 1, 20, .inl gf)), (cs, .inl (k 1, 20, .inl sf)), (ck, .inl (k 1, 120, .inl kf0)), (h, .inr (3, [.ref hs, .long op, .ref ha, .ref hl0])), (ha, .inl (k 1, 14436, .inl fa)), (hl0, .inl (k 1, 14436, .inl fl)), (hn1, .inr (2, [.ref hs, .ref h, .ref kn, .ref te, .ref ho, .ref co])), (kn, .inl (k 1, 6, .inl kf)), (te, .inl (k 1, 6, .inl tf)), (ho, .inl (k 1, 6, .inl hf2)), (ro, .inl (k 1, 60, .inl f_11)), (hs, .inr (5, fs)), (hf, .inl (k 1, 36, .inl f)), (hg, .inl (k 1, 32, .inl g)), (hy, .inr (9, [.ref yw, .ref y1, .ref y2, .ref y3, .ref yp, .int (iZ th), .int (iZ ys), .int (iZ yr)])), (yw, .inl (k 1, 60, .inl ywf)), (y1, .inl (k 1, 60, .inl y1f)), (y2, .inl (k 1, 60, .inl y2f)), (y3, .inl (k 1, 60, .inl y3f)), (yp, .inl (k 1, 60, .inl ypf))] := hD
    refine lv_aload_n hx hb dX1_behindEnd_40 rfl (lv_at hl 1 rfl) ?_
    refine va_get (D := D) (ci := 1) (v := .ref ro) (C := RX1) (T := TX1) (N := 11) hx hb hts iX1 hown hK hP 0 rfl rfl 3 (by decide) (hts _ qf_X1_11) (fun _ h => h) rfl dX1_behindEnd_41 ?_
    refine lv_iload_n hx hb dX1_behindEnd_44 rfl (lv_at hl 0 rfl) ?_
    refine va_iald hx hb hK hP 14 1 rfl rfl (zin (e := (gz ypf a)) (n := 60) ⟨by omega, by omega⟩ (by decide)) dX1_behindEnd_45 ?_
    refine lv_topi (fun x_12 ex_12 => ?_)
    obtain rfl : x_12 = iZ (gz f_11 (gz ypf a)) := ex_12.trans (gz_eq ⟨by omega, by omega⟩)
    have h_13 := gz_rg f_11 (gz ypf a)
    have uh_13 := gz_up hf_11 ⟨by omega, by omega⟩ ⟨by omega, by omega⟩ (j := (gz ypf a)) (by omega)
    rw [if_pos rfl] at uh_13
    refine lv_if_le (tgt := 53) hx hb dX1_behindEnd_46 (by decide) (fun c_14 => ?_) (fun c_14 => ?_)
    ·
      have c_14 := (zle (x := iZ (gz f_11 (gz ypf a))) (y := iZ 0) rfl rfl ⟨by omega, by omega⟩ ⟨by omega, by omega⟩).mp c_14
      refine lv_iload_n hx hb dX1_behindEnd_53 rfl (lv_at hl 2 rfl) ?_
      refine lv_iconst (v := iZ 1) hx hb dX1_behindEnd_54 (by decide) ?_
      refine lv_iadd hx hb dX1_behindEnd_55 ?_
      refine lv_topi (fun x_15 ex_15 => ?_)
      obtain rfl : x_15 = iZ (a + 1) := ex_15.trans (iZ_add a 1)
      exact EWi hx hb hr hlocks hS (fun i => [(a + 1), wk, od, dr, st, mi, we, tu, o0, le].getD i 0, op, fun i => [fa, fl, kf, tf, hf2, wf, gf, sf, kf0, f_11].getD i (fun _ => 0)) rfl ⟨⟨show 0 ≤ (a + 1) ∧ (a + 1) ≤ yr from ⟨by omega, by omega⟩, rfl⟩, show BI _ _ from ⟨show 0 ≤ wk ∧ wk ≤ 400 from ⟨by omega, by omega⟩, show 0 ≤ od ∧ od ≤ 20 from ⟨by omega, by omega⟩, show 0 ≤ dr ∧ dr ≤ 65535 from ⟨by omega, by omega⟩, rga, rgl, rgk, rgt, rgg0⟩⟩ (hP.sub [0, 1, 2, 3, 4, 5, 6, 7, 8, 9, 10, 11, 12, 13, 14, 15, 16, 17, 18, 19, 20, 21, 22, 23] rfl) (hD.sub [0, 1, 2, 3, 4, 5, 6, 7, 8, 9, 10, 11, 12, 13, 14, 15, 16, 17, 18, 19, 20, 21, 22, 23] rfl rfl) dX1_behindEnd_56
    ·
      have c_14 := mt (zle (x := iZ (gz f_11 (gz ypf a))) (y := iZ 0) rfl rfl ⟨by omega, by omega⟩ ⟨by omega, by omega⟩).mpr c_14
      refine lv_iload_n hx hb dX1_behindEnd_49 rfl (lv_at hl 0 rfl) ?_
      refine lv_iconst (v := iZ 1) hx hb dX1_behindEnd_50 (by decide) ?_
      refine lv_iadd hx hb dX1_behindEnd_51 ?_
      refine lv_topi (fun x_16 ex_16 => ?_)
      obtain rfl : x_16 = iZ ((gz ypf a) + 1) := ex_16.trans (iZ_add (gz ypf a) 1)
      exact EWi hx hb hr hlocks hS (fun i => [((gz ypf a) + 1), wk, od, dr, st, mi, we, tu, o0, le].getD i 0, op, fun i => [fa, fl, kf, tf, hf2, wf, gf, sf, kf0, f_11].getD i (fun _ => 0)) rfl ⟨⟨show 0 ≤ ((gz ypf a) + 1) ∧ ((gz ypf a) + 1) ≤ yr from ⟨by omega, by omega⟩, rfl⟩, show BI _ _ from ⟨show 0 ≤ wk ∧ wk ≤ 400 from ⟨by omega, by omega⟩, show 0 ≤ od ∧ od ≤ 20 from ⟨by omega, by omega⟩, show 0 ≤ dr ∧ dr ≤ 65535 from ⟨by omega, by omega⟩, rga, rgl, rgk, rgt, rgg0⟩⟩ (hP.sub [0, 1, 2, 3, 4, 5, 6, 7, 8, 9, 10, 11, 12, 13, 14, 15, 16, 17, 18, 19, 20, 21, 22, 23] rfl) (hD.sub [0, 1, 2, 3, 4, 5, 6, 7, 8, 9, 10, 11, 12, 13, 14, 15, 16, 17, 18, 19, 20, 21, 22, 23] rfl rfl) dX1_behindEnd_52
set_option maxHeartbeats 4000000 in
set_option maxRecDepth 100000 in
theorem k_holds (l : Launch) (D : va_G) (k : Nat → ClassId) (hL hw1 hc hy hn1 ro cw cg cs ck kn te ho co yw y1 y2 y3 yp : Nat) (dr st mi we tu o0 le th ys yr : Int) (ywf y1f y2f y3f ypf : Nat → Int32) (hyr : 0 ≤ yr ∧ yr ≤ 60) (h hs ha hl0 : Nat) (op : Int64) (fa fl : Nat → Int32) (rga : rgI fa (-2) 420 14436) (rgl : rgI fl (-2) 400 14436) (hf hg : Nat) (fs : List Value) (f1 : fs[1]? = some (.ref hf)) (f2 : fs[2]? = some (.ref hg)) (f g : Nat → Int32) (n : Int) (hn : n ≤ 6) (hx0 : FXI f n) (ni : Int) (f4 : fs[4]? = some (.int (iZ ni))) (hni : 0 ≤ ni ∧ ni ≤ 8) (f3 : fs[3]? = some (.int (iZ n))) (hn0 : 0 ≤ n) (lw : Int) (f5 : fs[5]? = some (.int (iZ lw))) (hlw : -2147483648 ≤ lw ∧ lw < 2147483648) (kf tf hf2 wf gf sf kf0 rof : Nat → Int32) (rgk : rgI kf (-1) 420 6) (rgt : rgI tf (-1) 5 6) (wk od : Int) (hwk : 0 ≤ wk ∧ wk ≤ 400) (hod : 0 ≤ od ∧ od ≤ 20) (rgg0 : rgI gf 0 5 od) (hdr : 0 ≤ dr ∧ dr ≤ 65535) (hYI : YI ywf y1f y3f ypf n yr) (a : Int) (ha0 : 0 ≤ a ∧ a < yr) (hW : gz ywf a = 19) : RP l yX1_holds cX1_holds 6 (some .boolean) 3 D k [.ref hL, .int (iZ a)] [(hL, .inr (1, [.ref hw1, .ref h, .ref hn1, .ref ro, .int (iZ dr), .int (iZ st), .int (iZ mi), .int (iZ we), .int (iZ tu), .int (iZ o0), .int (iZ le)])), (hw1, .inr (8, [.ref hs, .ref hc, .ref hy])), (hc, .inr (0, [.ref cw, .ref cg, .ref cs, .ref ck, .int (iZ wk), .int (iZ od)])), (cw, .inl (k 1, 401, .inl wf)), (cg, .inl (k 1, 20, .inl gf)), (cs, .inl (k 1, 20, .inl sf)), (ck, .inl (k 1, 120, .inl kf0)), (h, .inr (3, [.ref hs, .long op, .ref ha, .ref hl0])), (ha, .inl (k 1, 14436, .inl fa)), (hl0, .inl (k 1, 14436, .inl fl)), (hn1, .inr (2, [.ref hs, .ref h, .ref kn, .ref te, .ref ho, .ref co])), (kn, .inl (k 1, 6, .inl kf)), (te, .inl (k 1, 6, .inl tf)), (ho, .inl (k 1, 6, .inl hf2)), (ro, .inl (k 1, 60, .inl rof)), (hs, .inr (5, fs)), (hf, .inl (k 1, 36, .inl f)), (hg, .inl (k 1, 32, .inl g)), (hy, .inr (9, [.ref yw, .ref y1, .ref y2, .ref y3, .ref yp, .int (iZ th), .int (iZ ys), .int (iZ yr)])), (yw, .inl (k 1, 60, .inl ywf)), (y1, .inl (k 1, 60, .inl y1f)), (y2, .inl (k 1, 60, .inl y2f)), (y3, .inl (k 1, 60, .inl y3f)), (yp, .inl (k 1, 60, .inl ypf))] (fun z => z = 0 ∨ z = 1) := by
  refine MRP (by decide) (Nat.le_of_ble_eq_true rfl) (fun p e s m below meth c ls hx hb hml hr hlocks hts hown hKK hP hl => ?_)
  have hK := hKK.1
  have hl : lv_has ls 6 [(0, .ref hL), (1, .int (iZ a))] := hl
  have hy0 := (hYI a ha0.1 ha0.2).2.1 hW
  refine lv_aload_n hx hb dX1_holds_0 rfl (lv_at hl 0 rfl) ?_
  refine va_get (D := D) (ci := 1) (v := .ref hw1) (C := RX1) (T := TX1) (N := 11) hx hb hts iX1 hown hK hP 0 rfl rfl 0 (by decide) (hts _ qf_X1_17) (fun _ h => h) rfl dX1_holds_1 ?_
  refine va_get (D := D) (ci := 8) (v := .ref hc) (C := RX8) (T := TX8) (N := 3) hx hb hts iX8 hown hK hP 1 rfl rfl 1 (by decide) (hts _ qf_X1_29) (fun _ h => h) rfl dX1_holds_4 ?_
  refine lv_astore_n (lv' := [(2, .ref hc), (0, .ref hL), (1, .int (iZ a))]) hx hb dX1_holds_7 rfl hl (by decide) rfl (fun ls hl => ?_)
  refine lv_aload_n hx hb dX1_holds_8 rfl (lv_at hl 1 rfl) ?_
  refine va_get (D := D) (ci := 1) (v := .ref hw1) (C := RX1) (T := TX1) (N := 11) hx hb hts iX1 hown hK hP 0 rfl rfl 0 (by decide) (hts _ qf_X1_17) (fun _ h => h) rfl dX1_holds_9 ?_
  refine va_get (D := D) (ci := 8) (v := .ref hy) (C := RX8) (T := TX8) (N := 3) hx hb hts iX8 hown hK hP 1 rfl rfl 2 (by decide) (hts _ qf_X1_92) (fun _ h => h) rfl dX1_holds_12 ?_
  refine va_get (D := D) (ci := 9) (v := .ref y2) (C := RX9) (T := TX9) (N := 8) hx hb hts iX9 hown hK hP 18 rfl rfl 2 (by decide) (hts _ qf_X1_140) (fun _ h => h) rfl dX1_holds_15 ?_
  refine lv_iload_n hx hb dX1_holds_18 rfl (lv_at hl 2 rfl) ?_
  refine va_iald hx hb hK hP 21 1 rfl rfl (zin (e := a) (n := 60) ⟨by omega, by omega⟩ (by decide)) dX1_holds_19 ?_
  refine lv_topi (fun x_1 ex_1 => ?_)
  obtain rfl : x_1 = iZ (gz y2f a) := ex_1.trans (gz_eq ⟨by omega, by omega⟩)
  have h_2 := gz_rg y2f a
  refine lv_istore_n (lv' := [(3, .int (iZ (gz y2f a))), (2, .ref hc), (0, .ref hL), (1, .int (iZ a))]) hx hb dX1_holds_20 rfl hl (by decide) rfl (fun ls hl => ?_)
  refine lv_aload_n hx hb dX1_holds_21 rfl (lv_at hl 2 rfl) ?_
  refine va_get (D := D) (ci := 1) (v := .ref hw1) (C := RX1) (T := TX1) (N := 11) hx hb hts iX1 hown hK hP 0 rfl rfl 0 (by decide) (hts _ qf_X1_17) (fun _ h => h) rfl dX1_holds_22 ?_
  refine va_get (D := D) (ci := 8) (v := .ref hy) (C := RX8) (T := TX8) (N := 3) hx hb hts iX8 hown hK hP 1 rfl rfl 2 (by decide) (hts _ qf_X1_92) (fun _ h => h) rfl dX1_holds_25 ?_
  refine va_get (D := D) (ci := 9) (v := .ref y3) (C := RX9) (T := TX9) (N := 8) hx hb hts iX9 hown hK hP 18 rfl rfl 3 (by decide) (hts _ qf_X1_161) (fun _ h => h) rfl dX1_holds_28 ?_
  refine lv_iload_n hx hb dX1_holds_31 rfl (lv_at hl 3 rfl) ?_
  refine va_iald hx hb hK hP 22 1 rfl rfl (zin (e := a) (n := 60) ⟨by omega, by omega⟩ (by decide)) dX1_holds_32 ?_
  refine lv_topi (fun x_3 ex_3 => ?_)
  obtain rfl : x_3 = iZ (gz y3f a) := ex_3.trans (gz_eq ⟨by omega, by omega⟩)
  have h_4 := gz_rg y3f a
  refine lv_istore (lv' := [(4, .int (iZ (gz y3f a))), (3, .int (iZ (gz y2f a))), (2, .ref hc), (0, .ref hL), (1, .int (iZ a))]) hx hb dX1_holds_33 hl (by decide) rfl (fun ls hl => ?_)
  refine lv_aload_n hx hb dX1_holds_35 rfl (lv_at hl 3 rfl) ?_
  refine va_get (D := D) (ci := 1) (v := .ref hw1) (C := RX1) (T := TX1) (N := 11) hx hb hts iX1 hown hK hP 0 rfl rfl 0 (by decide) (hts _ qf_X1_17) (fun _ h => h) rfl dX1_holds_36 ?_
  refine va_get (D := D) (ci := 8) (v := .ref hy) (C := RX8) (T := TX8) (N := 3) hx hb hts iX8 hown hK hP 1 rfl rfl 2 (by decide) (hts _ qf_X1_92) (fun _ h => h) rfl dX1_holds_39 ?_
  refine va_get (D := D) (ci := 9) (v := .ref y1) (C := RX9) (T := TX9) (N := 8) hx hb hts iX9 hown hK hP 18 rfl rfl 1 (by decide) (hts _ qf_X1_134) (fun _ h => h) rfl dX1_holds_42 ?_
  refine lv_iload_n hx hb dX1_holds_45 rfl (lv_at hl 4 rfl) ?_
  refine va_iald hx hb hK hP 20 1 rfl rfl (zin (e := a) (n := 60) ⟨by omega, by omega⟩ (by decide)) dX1_holds_46 ?_
  refine lv_topi (fun x_5 ex_5 => ?_)
  obtain rfl : x_5 = iZ (gz y1f a) := ex_5.trans (gz_eq ⟨by omega, by omega⟩)
  have h_6 := gz_rg y1f a
  refine lv_bipush (v := iZ 7) hx hb dX1_holds_47 (by decide) ?_
  refine lv_icmp_ne (tgt := 71) hx hb dX1_holds_49 (by decide) (fun c_7 => ?_) (fun c_7 => ?_)
  ·
    have c_7 := mt (zeq (x := iZ (gz y1f a)) (y := iZ 7) rfl rfl ⟨by omega, by omega⟩ ⟨by omega, by omega⟩).mpr c_7
    refine lv_aload_n hx hb dX1_holds_71 rfl (lv_at hl 3 rfl) ?_
    refine va_get (D := D) (ci := 1) (v := .ref hw1) (C := RX1) (T := TX1) (N := 11) hx hb hts iX1 hown hK hP 0 rfl rfl 0 (by decide) (hts _ qf_X1_17) (fun _ h => h) rfl dX1_holds_72 ?_
    refine va_get (D := D) (ci := 8) (v := .ref hy) (C := RX8) (T := TX8) (N := 3) hx hb hts iX8 hown hK hP 1 rfl rfl 2 (by decide) (hts _ qf_X1_92) (fun _ h => h) rfl dX1_holds_75 ?_
    refine va_get (D := D) (ci := 9) (v := .ref y1) (C := RX9) (T := TX9) (N := 8) hx hb hts iX9 hown hK hP 18 rfl rfl 1 (by decide) (hts _ qf_X1_134) (fun _ h => h) rfl dX1_holds_78 ?_
    refine lv_iload_n hx hb dX1_holds_81 rfl (lv_at hl 4 rfl) ?_
    refine va_iald hx hb hK hP 20 1 rfl rfl (zin (e := a) (n := 60) ⟨by omega, by omega⟩ (by decide)) dX1_holds_82 ?_
    refine lv_topi (fun x_8 ex_8 => ?_)
    obtain rfl : x_8 = iZ (gz y1f a) := ex_8.trans (gz_eq ⟨by omega, by omega⟩)
    have h_9 := gz_rg y1f a
    refine lv_bipush (v := iZ 20) hx hb dX1_holds_83 (by decide) ?_
    refine lv_icmp_ne (tgt := 126) hx hb dX1_holds_85 (by decide) (fun c_10 => ?_) (fun c_10 => ?_)
    ·
      have c_10 := mt (zeq (x := iZ (gz y1f a)) (y := iZ 20) rfl rfl ⟨by omega, by omega⟩ ⟨by omega, by omega⟩).mpr c_10
      refine lv_iload_n hx hb dX1_holds_126 rfl (lv_at hl 1 rfl) ?_
      refine lv_bipush (v := iZ 60) hx hb dX1_holds_127 (by decide) ?_
      refine lv_icmp_ne (tgt := 147) hx hb dX1_holds_129 (by decide) (fun c_11 => ?_) (fun c_11 => ?_)
      ·
        have c_11 := mt (zeq (x := iZ (gz y2f a)) (y := iZ 60) rfl rfl ⟨by omega, by omega⟩ ⟨by omega, by omega⟩).mpr c_11
        refine lv_iload_n hx hb dX1_holds_147 rfl (lv_at hl 1 rfl) ?_
        refine lv_bipush (v := iZ 62) hx hb dX1_holds_148 (by decide) ?_
        refine lv_icmp_ne (tgt := 170) hx hb dX1_holds_150 (by decide) (fun c_12 => ?_) (fun c_12 => ?_)
        ·
          have c_12 := mt (zeq (x := iZ (gz y2f a)) (y := iZ 62) rfl rfl ⟨by omega, by omega⟩ ⟨by omega, by omega⟩).mpr c_12
          refine lv_aload_n hx hb dX1_holds_170 rfl (lv_at hl 2 rfl) ?_
          refine va_get (D := D) (ci := 0) (v := .int (iZ wk)) (C := RX0) (T := TX0) (N := 6) hx hb hts iX0 hown hK hP 2 rfl rfl 4 (by decide) (hts _ qf_X1_35) (fun _ h => h) rfl dX1_holds_171 ?_
          refine lv_iload hx hb dX1_holds_174 (lv_at hl 0 rfl) ?_
          refine lv_icmp_ne (tgt := 183) hx hb dX1_holds_176 (by decide) (fun c_13 => ?_) (fun c_13 => ?_)
          ·
            have c_13 := mt (zeq (x := iZ wk) (y := iZ (gz y3f a)) rfl rfl ⟨by omega, by omega⟩ ⟨by omega, by omega⟩).mpr c_13
            refine lv_iconst (v := iZ 0) hx hb dX1_holds_183 (by decide) ?_
            exact EPz hx hb hr hlocks (by omega) (by omega) dX1_holds_184
          ·
            have c_13 := (zeq (x := iZ wk) (y := iZ (gz y3f a)) rfl rfl ⟨by omega, by omega⟩ ⟨by omega, by omega⟩).mp c_13
            refine lv_iconst (v := iZ 1) hx hb dX1_holds_179 (by decide) ?_
            refine lv_goto (tgt := 184) hx hb dX1_holds_180 (by decide) ?_
            exact EPz hx hb hr hlocks (by omega) (by omega) dX1_holds_184
        ·
          have c_12 := (zeq (x := iZ (gz y2f a)) (y := iZ 62) rfl rfl ⟨by omega, by omega⟩ ⟨by omega, by omega⟩).mp c_12
          refine lv_aload_n hx hb dX1_holds_153 rfl (lv_at hl 2 rfl) ?_
          refine va_get (D := D) (ci := 0) (v := .int (iZ wk)) (C := RX0) (T := TX0) (N := 6) hx hb hts iX0 hown hK hP 2 rfl rfl 4 (by decide) (hts _ qf_X1_35) (fun _ h => h) rfl dX1_holds_154 ?_
          refine lv_iload hx hb dX1_holds_157 (lv_at hl 0 rfl) ?_
          refine lv_icmp_le (tgt := 166) hx hb dX1_holds_159 (by decide) (fun c_14 => ?_) (fun c_14 => ?_)
          ·
            have c_14 := (zle (x := iZ wk) (y := iZ (gz y3f a)) rfl rfl ⟨by omega, by omega⟩ ⟨by omega, by omega⟩).mp c_14
            refine lv_iconst (v := iZ 0) hx hb dX1_holds_166 (by decide) ?_
            refine lv_goto (tgt := 184) hx hb dX1_holds_167 (by decide) ?_
            exact EPz hx hb hr hlocks (by omega) (by omega) dX1_holds_184
          ·
            have c_14 := mt (zle (x := iZ wk) (y := iZ (gz y3f a)) rfl rfl ⟨by omega, by omega⟩ ⟨by omega, by omega⟩).mpr c_14
            refine lv_iconst (v := iZ 1) hx hb dX1_holds_162 (by decide) ?_
            refine lv_goto (tgt := 184) hx hb dX1_holds_163 (by decide) ?_
            exact EPz hx hb hr hlocks (by omega) (by omega) dX1_holds_184
      ·
        have c_11 := (zeq (x := iZ (gz y2f a)) (y := iZ 60) rfl rfl ⟨by omega, by omega⟩ ⟨by omega, by omega⟩).mp c_11
        refine lv_aload_n hx hb dX1_holds_132 rfl (lv_at hl 2 rfl) ?_
        refine va_get (D := D) (ci := 0) (v := .int (iZ wk)) (C := RX0) (T := TX0) (N := 6) hx hb hts iX0 hown hK hP 2 rfl rfl 4 (by decide) (hts _ qf_X1_35) (fun _ h => h) rfl dX1_holds_133 ?_
        refine lv_iload hx hb dX1_holds_136 (lv_at hl 0 rfl) ?_
        refine lv_icmp_ge (tgt := 145) hx hb dX1_holds_138 (by decide) (fun c_15 => ?_) (fun c_15 => ?_)
        ·
          have c_15 := (zle (x := iZ (gz y3f a)) (y := iZ wk) rfl rfl ⟨by omega, by omega⟩ ⟨by omega, by omega⟩).mp c_15
          refine lv_iconst (v := iZ 0) hx hb dX1_holds_145 (by decide) ?_
          exact EPz hx hb hr hlocks (by omega) (by omega) dX1_holds_146
        ·
          have c_15 := mt (zle (x := iZ (gz y3f a)) (y := iZ wk) rfl rfl ⟨by omega, by omega⟩ ⟨by omega, by omega⟩).mpr c_15
          refine lv_iconst (v := iZ 1) hx hb dX1_holds_141 (by decide) ?_
          refine lv_goto (tgt := 146) hx hb dX1_holds_142 (by decide) ?_
          exact EPz hx hb hr hlocks (by omega) (by omega) dX1_holds_146
    ·
      have c_10 := (zeq (x := iZ (gz y1f a)) (y := iZ 20) rfl rfl ⟨by omega, by omega⟩ ⟨by omega, by omega⟩).mp c_10
      refine lv_aload_n hx hb dX1_holds_88 rfl (lv_at hl 3 rfl) ?_
      refine va_get (D := D) (ci := 1) (v := .ref hw1) (C := RX1) (T := TX1) (N := 11) hx hb hts iX1 hown hK hP 0 rfl rfl 0 (by decide) (hts _ qf_X1_17) (fun _ h => h) rfl dX1_holds_89 ?_
      refine lv_iload hx hb dX1_holds_92 (lv_at hl 0 rfl) ?_
      refine lv_aload_n hx hb dX1_holds_94 rfl (lv_at hl 2 rfl) ?_
      refine va_get (D := D) (ci := 0) (v := .int (iZ wk)) (C := RX0) (T := TX0) (N := 6) hx hb hts iX0 hown hK hP 2 rfl rfl 4 (by decide) (hts _ qf_X1_35) (fun _ h => h) rfl dX1_holds_95 ?_
      refine CPV (As := [.int (iZ (gz y3f a)), .int (iZ wk)]) (rest := []) hx hb hml hown hts hKK (hP.sub (ws' := [(hw1, .inr (8, [.ref hs, .ref hc, .ref hy])), (hc, .inr (0, [.ref cw, .ref cg, .ref cs, .ref ck, .int (iZ wk), .int (iZ od)])), (cg, .inl (k 1, 20, .inl gf)), (cs, .inl (k 1, 20, .inl sf)), (ck, .inl (k 1, 120, .inl kf0)), (hs, .inr (5, fs)), (hf, .inl (k 1, 36, .inl f))]) [1, 2, 4, 5, 6, 15, 16] rfl) (k_ruler l D k hw1 hc hy cw cg cs ck gf sf kf0 wk od ⟨by omega, by omega⟩ ⟨by omega, by omega⟩ rgg0 hs hf fs f1 f n hn hx0 f3 hn0 lw f5 hlw (gz y3f a) wk ⟨by omega, by omega⟩ ⟨by omega, by omega⟩) ci_X8_ruler qm_X1_164 ⟨Nat.le_of_ble_eq_true rfl, Nat.le_of_ble_eq_true rfl⟩ ⟨Nat.le_of_ble_eq_true rfl, Nat.le_of_ble_eq_true rfl⟩ 0 rfl rfl rfl hl.1 rfl (Nat.le_of_ble_eq_true rfl) dX1_holds_98 (fun z_16 hz_16 => ?_)
      refine lv_istore (lv' := [(5, .int (iZ z_16)), (4, .int (iZ (gz y3f a))), (3, .int (iZ (gz y2f a))), (2, .ref hc), (0, .ref hL), (1, .int (iZ a))]) hx hb dX1_holds_101 hl (by decide) rfl (fun ls hl => ?_)
      refine lv_iload hx hb dX1_holds_103 (lv_at hl 0 rfl) ?_
      refine lv_iconst (v := iZ (-1)) hx hb dX1_holds_105 (by decide) ?_
      refine lv_icmp_eq (tgt := 124) hx hb dX1_holds_106 (by decide) (fun c_17 => ?_) (fun c_17 => ?_)
      ·
        have c_17 := (zeq (x := iZ z_16) (y := iZ (-1)) rfl rfl ⟨by omega, by omega⟩ ⟨by omega, by omega⟩).mp c_17
        refine lv_iconst (v := iZ 0) hx hb dX1_holds_124 (by decide) ?_
        exact EPz hx hb hr hlocks (by omega) (by omega) dX1_holds_125
      ·
        have c_17 := mt (zeq (x := iZ z_16) (y := iZ (-1)) rfl rfl ⟨by omega, by omega⟩ ⟨by omega, by omega⟩).mpr c_17
        refine lv_aload_n hx hb dX1_holds_109 rfl (lv_at hl 3 rfl) ?_
        refine va_get (D := D) (ci := 0) (v := .ref cg) (C := RX0) (T := TX0) (N := 6) hx hb hts iX0 hown hK hP 2 rfl rfl 1 (by decide) (hts _ qf_X1_76) (fun _ h => h) rfl dX1_holds_110 ?_
        refine lv_iload hx hb dX1_holds_113 (lv_at hl 0 rfl) ?_
        refine va_iald hx hb hK hP 4 1 rfl rfl (zin (e := z_16) (n := 20) ⟨by omega, by omega⟩ (by decide)) dX1_holds_115 ?_
        refine lv_topi (fun x_18 ex_18 => ?_)
        obtain rfl : x_18 = iZ (gz gf z_16) := ex_18.trans (gz_eq ⟨by omega, by omega⟩)
        have h_19 := rgg0 z_16 (by omega) (by omega)
        refine lv_iload_n hx hb dX1_holds_116 rfl (lv_at hl 2 rfl) ?_
        refine lv_icmp_ne (tgt := 124) hx hb dX1_holds_117 (by decide) (fun c_20 => ?_) (fun c_20 => ?_)
        ·
          have c_20 := mt (zeq (x := iZ (gz gf z_16)) (y := iZ (gz y2f a)) rfl rfl ⟨by omega, by omega⟩ ⟨by omega, by omega⟩).mpr c_20
          refine lv_iconst (v := iZ 0) hx hb dX1_holds_124 (by decide) ?_
          exact EPz hx hb hr hlocks (by omega) (by omega) dX1_holds_125
        ·
          have c_20 := (zeq (x := iZ (gz gf z_16)) (y := iZ (gz y2f a)) rfl rfl ⟨by omega, by omega⟩ ⟨by omega, by omega⟩).mp c_20
          refine lv_iconst (v := iZ 1) hx hb dX1_holds_120 (by decide) ?_
          refine lv_goto (tgt := 125) hx hb dX1_holds_121 (by decide) ?_
          exact EPz hx hb hr hlocks (by omega) (by omega) dX1_holds_125
  ·
    have c_7 := (zeq (x := iZ (gz y1f a)) (y := iZ 7) rfl rfl ⟨by omega, by omega⟩ ⟨by omega, by omega⟩).mp c_7
    refine lv_aload_n hx hb dX1_holds_52 rfl (lv_at hl 2 rfl) ?_
    refine lv_iload_n hx hb dX1_holds_53 rfl (lv_at hl 1 rfl) ?_
    refine lv_aload_n hx hb dX1_holds_54 rfl (lv_at hl 2 rfl) ?_
    refine va_get (D := D) (ci := 0) (v := .int (iZ wk)) (C := RX0) (T := TX0) (N := 6) hx hb hts iX0 hown hK hP 2 rfl rfl 4 (by decide) (hts _ qf_X1_35) (fun _ h => h) rfl dX1_holds_55 ?_
    refine CPV (As := [.int (iZ (gz y2f a)), .int (iZ wk)]) (rest := []) hx hb hml hown hts hKK (hP.sub (ws' := [(hc, .inr (0, [.ref cw, .ref cg, .ref cs, .ref ck, .int (iZ wk), .int (iZ od)])), (cw, .inl (k 1, 401, .inl wf))]) [2, 3] rfl) (k_wornIn l D k hc cw [.ref cw, .ref cg, .ref cs, .ref ck, .int (iZ wk), .int (iZ od)] rfl wf (gz y2f a) wk ⟨by omega, by omega⟩) ci_X0_wornIn qm_X1_63 ⟨Nat.le_of_ble_eq_true rfl, Nat.le_of_ble_eq_true rfl⟩ ⟨Nat.le_of_ble_eq_true rfl, Nat.le_of_ble_eq_true rfl⟩ 0 rfl rfl rfl hl.1 rfl (Nat.le_of_ble_eq_true rfl) dX1_holds_58 (fun z_21 hz_21 => ?_)
    have hbz_21 := hz_21.2
    refine lv_iconst (v := iZ 1) hx hb dX1_holds_61 (by decide) ?_
    refine lv_icmp_ne (tgt := 69) hx hb dX1_holds_62 (by decide) (fun c_22 => ?_) (fun c_22 => ?_)
    ·
      have c_22 := mt (zeq (x := iZ z_21) (y := iZ 1) rfl rfl ⟨by omega, by omega⟩ ⟨by omega, by omega⟩).mpr c_22
      refine lv_iconst (v := iZ 0) hx hb dX1_holds_69 (by decide) ?_
      exact EPz hx hb hr hlocks (by omega) (by omega) dX1_holds_70
    ·
      have c_22 := (zeq (x := iZ z_21) (y := iZ 1) rfl rfl ⟨by omega, by omega⟩ ⟨by omega, by omega⟩).mp c_22
      refine lv_iconst (v := iZ 1) hx hb dX1_holds_65 (by decide) ?_
      refine lv_goto (tgt := 70) hx hb dX1_holds_66 (by decide) ?_
      exact EPz hx hb hr hlocks (by omega) (by omega) dX1_holds_70
