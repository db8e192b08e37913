/-- a price fits the ladder -/
def kld (p : Int → Int) (j v : Int) : Prop := (j ≤ 0 ∨ v ≤ p (j - 1)) ∧ (4 ≤ j ∨ p (j + 1) ≤ v)

abbrev rm_X1_init : Room := { frames := 1, cells := 1, slots := 5, locals := 20 }
set_option maxHeartbeats 4000000 in
set_option maxRecDepth 100000 in
/-- a new season -/
theorem mt_X1_init (l : Launch) (D : va_G) (cI cS cJ : ClassId) (sa : Nat)  : cM l yX1_init wsX1_init rm_X1_init [.ref sa] D (tyL cI cS cJ) [(sa, ob 1 [.null, iv 0, iv 0, iv 0, iv 0, iv 0, iv 0])] (fun r_ w_ => ∃ sp : Nat, r_ = none ∧ w_ = [(sa, ob 1 [.ref sp, iv 8, iv 0, iv 2, iv 0, iv 0, iv 0]), (sp, ar cI 5 ((fun _ => 100)))]) 1 5 := by
  refine en_M (cc := cX1_init) (maxL := 2) (ret := none) (by decide) rfl (Nat.le_of_ble_eq_true rfl) ?_
  intro p e s m args below meth c ls A hX hE hP hK hD hS hA hl Q hQ
  obtain ⟨hx, hb, hr, hml, hts, hown, hlocks, hnm⟩ := hX
  have hown : s.vm.findClass RX1 = some m.cls := hown
  have hl : lv_has ls 2 [(0, .ref sa)] := hl
  have inX1 : ∀ w ∈ u_ws RX1 TX1 7, w ∈ wsX1_init := by decide +kernel
  have w0 : (Cond.methodLink RX1 3 objectInit).before args s = true := hts _ (by decide +kernel)
  have w1 : (Cond.instanceMethod objectInit).before args s = true := hts _ (by decide +kernel)
  have w2 : (Cond.code objectInit ⟨#[0xb1]⟩ 1 none).before args s = true := hts _ (by decide +kernel)
  have w3 : (Cond.arrayClass .int).before args s = true := hts _ (by decide +kernel)
  have w4 : (Cond.fieldLink RX1 9 RX1 "prices" "[I").before args s = true := hts _ (by decide +kernel)
  have w5 : (Cond.fieldLink RX1 15 RX1 "weeks" "I").before args s = true := hts _ (by decide +kernel)
  have w6 : (Cond.fieldLink RX1 19 RX1 "gap" "I").before args s = true := hts _ (by decide +kernel)
  refine lv_aload_n hx hb dX1_init_0 rfl (lv_at hl 0 rfl) ?_
  refine W.objInit hx hb hown w0 w1 w2 rfl (by rw [hml]; exact hl.1) rfl dX1_init_1 (Nat.le_of_ble_eq_true rfl) (Nat.le_of_ble_eq_true rfl) ?_
  refine W.eq (g2 := F0 m 4 ls []) rfl ?_
  refine lv_aload_n hx hb dX1_init_4 rfl (lv_at hl 0 rfl) ?_
  refine lv_iconst (v := zI 5) hx hb dX1_init_5 rfl ?_
  refine i_newa (n := 5) (N := 5) hx hb w3 hK hP hD hS hA rfl (Nat.le_of_ble_eq_true rfl) (Nat.le_of_ble_eq_true rfl) (Nat.le_of_ble_eq_true rfl) dX1_init_6 (fun q_1 H hP hD hS => ?_)
  have hP : va_P D vwCl [(sa, ob 1 [.null, iv 0, iv 0, iv 0, iv 0, iv 0, iv 0]), (q_1, ar cI 5 ((fun _ => 0)))] H := hP
  have hD : va_D A [(sa, ob 1 [.null, iv 0, iv 0, iv 0, iv 0, iv 0, iv 0]), (q_1, ar cI 5 ((fun _ => 0)))] := hD
  refine va_putF (D := D) (ci := 1) (v := .ref q_1) (ty := (.array .int)) (C := RX1) (T := TX1) (N := 7) hx hb hts inX1 tyX1 tyX1_ok nmX1 hown hK hP hD hS 0 rfl rfl 0 (by decide) w4 (fun _ h9 => h9) rfl hnm rfl (by decide +kernel) rfl rfl (Nat.le_of_ble_eq_true rfl) dX1_init_8 (fun H locs hP hD hS => ?_)
  have hP : va_P D vwCl [(sa, ob 1 [.ref q_1, iv 0, iv 0, iv 0, iv 0, iv 0, iv 0]), (q_1, ar cI 5 ((fun _ => 0)))] H := hP
  have hD : va_D A [(sa, ob 1 [.ref q_1, iv 0, iv 0, iv 0, iv 0, iv 0, iv 0]), (q_1, ar cI 5 ((fun _ => 0)))] := hD
  refine lv_aload_n hx hb dX1_init_11 rfl (lv_at hl 0 rfl) ?_
  refine lv_bipush (v := zI 8) hx hb dX1_init_12 (by decide) ?_
  refine va_put (D := D) (ci := 1) (v := iv 8) (ty := .int) (C := RX1) (T := TX1) (N := 7) hx hb hts inX1 tyX1 tyX1_ok nmX1 hown hK hP hD hS 0 rfl rfl 1 (by decide) w5 (fun _ h9 => h9) rfl (by decide +kernel) rfl rfl (Nat.le_of_ble_eq_true rfl) dX1_init_14 (fun H locs hP hD hS => ?_)
  have hP : va_P D vwCl [(sa, ob 1 [.ref q_1, iv 8, iv 0, iv 0, iv 0, iv 0, iv 0]), (q_1, ar cI 5 ((fun _ => 0)))] H := hP
  have hD : va_D A [(sa, ob 1 [.ref q_1, iv 8, iv 0, iv 0, iv 0, iv 0, iv 0]), (q_1, ar cI 5 ((fun _ => 0)))] := hD
  refine lv_aload_n hx hb dX1_init_17 rfl (lv_at hl 0 rfl) ?_
  refine lv_iconst (v := zI 2) hx hb dX1_init_18 rfl ?_
  refine va_put (D := D) (ci := 1) (v := iv 2) (ty := .int) (C := RX1) (T := TX1) (N := 7) hx hb hts inX1 tyX1 tyX1_ok nmX1 hown hK hP hD hS 0 rfl rfl 3 (by decide) w6 (fun _ h9 => h9) rfl (by decide +kernel) rfl rfl (Nat.le_of_ble_eq_true rfl) dX1_init_19 (fun H locs hP hD hS => ?_)
  have hP : va_P D vwCl [(sa, ob 1 [.ref q_1, iv 8, iv 0, iv 2, iv 0, iv 0, iv 0]), (q_1, ar cI 5 ((fun _ => 0)))] H := hP
  have hD : va_D A [(sa, ob 1 [.ref q_1, iv 8, iv 0, iv 2, iv 0, iv 0, iv 0]), (q_1, ar cI 5 ((fun _ => 0)))] := hD
  refine lv_iconst (v := zI 0) hx hb dX1_init_22 rfl ?_
  refine lv_istore_n (lv' := [(1, iv 0), (0, .ref sa)]) hx hb dX1_init_23 rfl hl (by decide) rfl (fun ls hl => ?_)
  refine lv_iload_n hx hb dX1_init_24 rfl (lv_at hl 0 rfl) ?_
  refine lv_iconst (v := zI 5) hx hb dX1_init_25 rfl ?_
  refine i_icmp_ge (tgt := 43) hx hb ⟨by decide, by decide⟩ ⟨by decide, by decide⟩ dX1_init_26 (by decide) (fun c_2 => absurd c_2 (by decide)) (fun c_2 => ?_)
  refine lv_aload_n hx hb dX1_init_29 rfl (lv_at hl 1 rfl) ?_
  refine va_get (D := D) (ci := 1) (v := .ref q_1) (C := RX1) (T := TX1) (N := 7) hx hb hts inX1 hown hK hP 0 rfl rfl 0 (by decide) w4 (fun _ h9 => h9) rfl dX1_init_30 ?_
  refine lv_iload_n hx hb dX1_init_33 rfl (lv_at hl 0 rfl) ?_
  refine lv_bipush (v := zI 100) hx hb dX1_init_34 (by decide) ?_
  refine i_iast hx hb hK hP hD hS 1 0 rfl rfl (by decide) (by decide) (by decide) dX1_init_36 (fun H locs hP hD hS => ?_)
  have hP : va_P D vwCl [(sa, ob 1 [.ref q_1, iv 8, iv 0, iv 2, iv 0, iv 0, iv 0]), (q_1, ar cI 5 (ui ((fun _ => 0)) 0 100))] H := hP
  have hD : va_D A [(sa, ob 1 [.ref q_1, iv 8, iv 0, iv 2, iv 0, iv 0, iv 0]), (q_1, ar cI 5 (ui ((fun _ => 0)) 0 100))] := hD
  refine i_iinc (n := 1) (lv' := [(1, iv 1), (0, .ref sa)]) hx hb dX1_init_37 hl (k := 0) rfl (by decide) rfl (fun ls hl => ?_)
  refine lv_goto (tgt := 24) hx hb dX1_init_40 (by decide) ?_
  refine lv_iload_n hx hb dX1_init_24 rfl (lv_at hl 0 rfl) ?_
  refine lv_iconst (v := zI 5) hx hb dX1_init_25 rfl ?_
  refine i_icmp_ge (tgt := 43) hx hb ⟨by decide, by decide⟩ ⟨by decide, by decide⟩ dX1_init_26 (by decide) (fun c_3 => absurd c_3 (by decide)) (fun c_3 => ?_)
  refine lv_aload_n hx hb dX1_init_29 rfl (lv_at hl 1 rfl) ?_
  refine va_get (D := D) (ci := 1) (v := .ref q_1) (C := RX1) (T := TX1) (N := 7) hx hb hts inX1 hown hK hP 0 rfl rfl 0 (by decide) w4 (fun _ h9 => h9) rfl dX1_init_30 ?_
  refine lv_iload_n hx hb dX1_init_33 rfl (lv_at hl 0 rfl) ?_
  refine lv_bipush (v := zI 100) hx hb dX1_init_34 (by decide) ?_
  refine i_iast hx hb hK hP hD hS 1 0 rfl rfl (by decide) (by decide) (by decide) dX1_init_36 (fun H locs hP hD hS => ?_)
  have hP : va_P D vwCl [(sa, ob 1 [.ref q_1, iv 8, iv 0, iv 2, iv 0, iv 0, iv 0]), (q_1, ar cI 5 (ui (ui ((fun _ => 0)) 0 100) 1 100))] H := hP
  have hD : va_D A [(sa, ob 1 [.ref q_1, iv 8, iv 0, iv 2, iv 0, iv 0, iv 0]), (q_1, ar cI 5 (ui (ui ((fun _ => 0)) 0 100) 1 100))] := hD
  refine i_iinc (n := 1) (lv' := [(1, iv 2), (0, .ref sa)]) hx hb dX1_init_37 hl (k := 0) rfl (by decide) rfl (fun ls hl => ?_)
  refine lv_goto (tgt := 24) hx hb dX1_init_40 (by decide) ?_
  refine lv_iload_n hx hb dX1_init_24 rfl (lv_at hl 0 rfl) ?_
  refine lv_iconst (v := zI 5) hx hb dX1_init_25 rfl ?_
  refine i_icmp_ge (tgt := 43) hx hb ⟨by decide, by decide⟩ ⟨by decide, by decide⟩ dX1_init_26 (by decide) (fun c_4 => absurd c_4 (by decide)) (fun c_4 => ?_)
  refine lv_aload_n hx hb dX1_init_29 rfl (lv_at hl 1 rfl) ?_
  refine va_get (D := D) (ci := 1) (v := .ref q_1) (C := RX1) (T := TX1) (N := 7) hx hb hts inX1 hown hK hP 0 rfl rfl 0 (by decide) w4 (fun _ h9 => h9) rfl dX1_init_30 ?_
  refine lv_iload_n hx hb dX1_init_33 rfl (lv_at hl 0 rfl) ?_
  refine lv_bipush (v := zI 100) hx hb dX1_init_34 (by decide) ?_
  refine i_iast hx hb hK hP hD hS 1 0 rfl rfl (by decide) (by decide) (by decide) dX1_init_36 (fun H locs hP hD hS => ?_)
  have hP : va_P D vwCl [(sa, ob 1 [.ref q_1, iv 8, iv 0, iv 2, iv 0, iv 0, iv 0]), (q_1, ar cI 5 (ui (ui (ui ((fun _ => 0)) 0 100) 1 100) 2 100))] H := hP
  have hD : va_D A [(sa, ob 1 [.ref q_1, iv 8, iv 0, iv 2, iv 0, iv 0, iv 0]), (q_1, ar cI 5 (ui (ui (ui ((fun _ => 0)) 0 100) 1 100) 2 100))] := hD
  refine i_iinc (n := 1) (lv' := [(1, iv 3), (0, .ref sa)]) hx hb dX1_init_37 hl (k := 0) rfl (by decide) rfl (fun ls hl => ?_)
  refine lv_goto (tgt := 24) hx hb dX1_init_40 (by decide) ?_
  refine lv_iload_n hx hb dX1_init_24 rfl (lv_at hl 0 rfl) ?_
  refine lv_iconst (v := zI 5) hx hb dX1_init_25 rfl ?_
  refine i_icmp_ge (tgt := 43) hx hb ⟨by decide, by decide⟩ ⟨by decide, by decide⟩ dX1_init_26 (by decide) (fun c_5 => absurd c_5 (by decide)) (fun c_5 => ?_)
  refine lv_aload_n hx hb dX1_init_29 rfl (lv_at hl 1 rfl) ?_
  refine va_get (D := D) (ci := 1) (v := .ref q_1) (C := RX1) (T := TX1) (N := 7) hx hb hts inX1 hown hK hP 0 rfl rfl 0 (by decide) w4 (fun _ h9 => h9) rfl dX1_init_30 ?_
  refine lv_iload_n hx hb dX1_init_33 rfl (lv_at hl 0 rfl) ?_
  refine lv_bipush (v := zI 100) hx hb dX1_init_34 (by decide) ?_
  refine i_iast hx hb hK hP hD hS 1 0 rfl rfl (by decide) (by decide) (by decide) dX1_init_36 (fun H locs hP hD hS => ?_)
  have hP : va_P D vwCl [(sa, ob 1 [.ref q_1, iv 8, iv 0, iv 2, iv 0, iv 0, iv 0]), (q_1, ar cI 5 (ui (ui (ui (ui ((fun _ => 0)) 0 100) 1 100) 2 100) 3 100))] H := hP
  have hD : va_D A [(sa, ob 1 [.ref q_1, iv 8, iv 0, iv 2, iv 0, iv 0, iv 0]), (q_1, ar cI 5 (ui (ui (ui (ui ((fun _ => 0)) 0 100) 1 100) 2 100) 3 100))] := hD
  refine i_iinc (n := 1) (lv' := [(1, iv 4), (0, .ref sa)]) hx hb dX1_init_37 hl (k := 0) rfl (by decide) rfl (fun ls hl => ?_)
  refine lv_goto (tgt := 24) hx hb dX1_init_40 (by decide) ?_
  refine lv_iload_n hx hb dX1_init_24 rfl (lv_at hl 0 rfl) ?_
  refine lv_iconst (v := zI 5) hx hb dX1_init_25 rfl ?_
  refine i_icmp_ge (tgt := 43) hx hb ⟨by decide, by decide⟩ ⟨by decide, by decide⟩ dX1_init_26 (by decide) (fun c_6 => absurd c_6 (by decide)) (fun c_6 => ?_)
  refine lv_aload_n hx hb dX1_init_29 rfl (lv_at hl 1 rfl) ?_
  refine va_get (D := D) (ci := 1) (v := .ref q_1) (C := RX1) (T := TX1) (N := 7) hx hb hts inX1 hown hK hP 0 rfl rfl 0 (by decide) w4 (fun _ h9 => h9) rfl dX1_init_30 ?_
  refine lv_iload_n hx hb dX1_init_33 rfl (lv_at hl 0 rfl) ?_
  refine lv_bipush (v := zI 100) hx hb dX1_init_34 (by decide) ?_
  refine i_iast hx hb hK hP hD hS 1 0 rfl rfl (by decide) (by decide) (by decide) dX1_init_36 (fun H locs hP hD hS => ?_)
  have hP : va_P D vwCl [(sa, ob 1 [.ref q_1, iv 8, iv 0, iv 2, iv 0, iv 0, iv 0]), (q_1, ar cI 5 (ui (ui (ui (ui (ui ((fun _ => 0)) 0 100) 1 100) 2 100) 3 100) 4 100))] H := hP
  have hD : va_D A [(sa, ob 1 [.ref q_1, iv 8, iv 0, iv 2, iv 0, iv 0, iv 0]), (q_1, ar cI 5 (ui (ui (ui (ui (ui ((fun _ => 0)) 0 100) 1 100) 2 100) 3 100) 4 100))] := hD
  refine i_iinc (n := 1) (lv' := [(1, iv 5), (0, .ref sa)]) hx hb dX1_init_37 hl (k := 0) rfl (by decide) rfl (fun ls hl => ?_)
  refine lv_goto (tgt := 24) hx hb dX1_init_40 (by decide) ?_
  refine lv_iload_n hx hb dX1_init_24 rfl (lv_at hl 0 rfl) ?_
  refine lv_iconst (v := zI 5) hx hb dX1_init_25 rfl ?_
  refine i_icmp_ge (tgt := 43) hx hb ⟨by decide, by decide⟩ ⟨by decide, by decide⟩ dX1_init_26 (by decide) (fun c_7 => ?_) (fun c_7 => absurd (by decide) c_7)
  have hW9 : WE D vwCl [(sa, ob 1 [.ref q_1, iv 8, iv 0, iv 2, iv 0, iv 0, iv 0]), (q_1, ar cI 5 (ui (ui (ui (ui (ui ((fun _ => 0)) 0 100) 1 100) 2 100) 3 100) 4 100))] [(sa, ob 1 [.ref q_1, iv 8, iv 0, iv 2, iv 0, iv 0, iv 0]), (q_1, ar cI 5 ((fun _ => 100)))] := ⟨ce_rf, ⟨ce_ar (fun j h0 h1 => by rcases (show j = 0 ∨ j = 1 ∨ j = 2 ∨ j = 3 ∨ j = 4 by omega) with rfl | rfl | rfl | rfl | rfl <;> rfl), trivial⟩⟩
  subst hQ
  exact r_Mv hx hb hr hlocks dX1_init_43 hS (hW9.P (hP.sub (ws' := [(sa, ob 1 [.ref q_1, iv 8, iv 0, iv 2, iv 0, iv 0, iv 0]), (q_1, ar cI 5 (ui (ui (ui (ui (ui ((fun _ => 0)) 0 100) 1 100) 2 100) 3 100) 4 100))]) [0, 1] rfl)) (hW9.D (hD.sub (ws' := [(sa, ob 1 [.ref q_1, iv 8, iv 0, iv 2, iv 0, iv 0, iv 0]), (q_1, ar cI 5 (ui (ui (ui (ui (ui ((fun _ => 0)) 0 100) 1 100) 2 100) 3 100) 4 100))]) [0, 1] (by decide) rfl)) (⟨q_1, rfl, rfl⟩) (Nat.le_of_ble_eq_true rfl) (Nat.le_of_ble_eq_true rfl)

abbrev rm_X1_startAnew : Room := { frames := 0, cells := 0, slots := 0, locals := 0 }
set_option maxHeartbeats 4000000 in
set_option maxRecDepth 100000 in
/-- a season begins -/
theorem mt_X1_startAnew (l : Launch) (D : va_G) (cI cS cJ : ClassId) (sa : Nat) (sp : Nat) (pr : Int → Int) (wks : Int) (wk : Int) (gp : Int) (rm : Int) (mv : Int) (tk : Int) (nw : Int)  : cM l yX1_startAnew wsX1_startAnew rm_X1_startAnew [.ref sa, iv nw] D (tyL cI cS cJ) [(sa, ob 1 [.ref sp, iv wks, iv wk, iv gp, iv rm, iv mv, iv tk]), (sp, ar cI 5 pr)] (fun r_ w_ => r_ = none ∧ w_ = [(sa, ob 1 [.ref sp, iv nw, iv 0, iv gp, iv rm, iv mv, iv 0]), (sp, ar cI 5 pr)]) 0 0 := by
  refine en_M (cc := cX1_startAnew) (maxL := 2) (ret := none) (by decide) rfl (Nat.le_of_ble_eq_true rfl) ?_
  intro p e s m args below meth c ls A hX hE hP hK hD hS hA hl Q hQ
  obtain ⟨hx, hb, hr, hml, hts, hown, hlocks, hnm⟩ := hX
  have hown : s.vm.findClass RX1 = some m.cls := hown
  have hl : lv_has ls 2 [(0, .ref sa), (1, iv nw)] := hl
  have inX1 : ∀ w ∈ u_ws RX1 TX1 7, w ∈ wsX1_startAnew := by decide +kernel
  have w0 : (Cond.fieldLink RX1 15 RX1 "weeks" "I").before args s = true := hts _ (by decide +kernel)
  have w1 : (Cond.fieldLink RX1 22 RX1 "week" "I").before args s = true := hts _ (by decide +kernel)
  have w2 : (Cond.fieldLink RX1 25 RX1 "taken" "I").before args s = true := hts _ (by decide +kernel)
  refine lv_aload_n hx hb dX1_startAnew_0 rfl (lv_at hl 0 rfl) ?_
  refine lv_iload_n hx hb dX1_startAnew_1 rfl (lv_at hl 1 rfl) ?_
  refine va_put (D := D) (ci := 1) (v := iv nw) (ty := .int) (C := RX1) (T := TX1) (N := 7) hx hb hts inX1 tyX1 tyX1_ok nmX1 hown hK hP hD hS 0 rfl rfl 1 (by decide) w0 (fun _ h9 => h9) rfl (by decide +kernel) rfl rfl (Nat.le_of_ble_eq_true rfl) dX1_startAnew_2 (fun H locs hP hD hS => ?_)
  have hP : va_P D vwCl [(sa, ob 1 [.ref sp, iv nw, iv wk, iv gp, iv rm, iv mv, iv tk]), (sp, ar cI 5 pr)] H := hP
  have hD : va_D A [(sa, ob 1 [.ref sp, iv nw, iv wk, iv gp, iv rm, iv mv, iv tk]), (sp, ar cI 5 pr)] := hD
  refine lv_aload_n hx hb dX1_startAnew_5 rfl (lv_at hl 0 rfl) ?_
  refine lv_iconst (v := zI 0) hx hb dX1_startAnew_6 rfl ?_
  refine va_put (D := D) (ci := 1) (v := iv 0) (ty := .int) (C := RX1) (T := TX1) (N := 7) hx hb hts inX1 tyX1 tyX1_ok nmX1 hown hK hP hD hS 0 rfl rfl 2 (by decide) w1 (fun _ h9 => h9) rfl (by decide +kernel) rfl rfl (Nat.le_of_ble_eq_true rfl) dX1_startAnew_7 (fun H locs hP hD hS => ?_)
  have hP : va_P D vwCl [(sa, ob 1 [.ref sp, iv nw, iv 0, iv gp, iv rm, iv mv, iv tk]), (sp, ar cI 5 pr)] H := hP
  have hD : va_D A [(sa, ob 1 [.ref sp, iv nw, iv 0, iv gp, iv rm, iv mv, iv tk]), (sp, ar cI 5 pr)] := hD
  refine lv_aload_n hx hb dX1_startAnew_10 rfl (lv_at hl 0 rfl) ?_
  refine lv_iconst (v := zI 0) hx hb dX1_startAnew_11 rfl ?_
  refine va_put (D := D) (ci := 1) (v := iv 0) (ty := .int) (C := RX1) (T := TX1) (N := 7) hx hb hts inX1 tyX1 tyX1_ok nmX1 hown hK hP hD hS 0 rfl rfl 6 (by decide) w2 (fun _ h9 => h9) rfl (by decide +kernel) rfl rfl (Nat.le_of_ble_eq_true rfl) dX1_startAnew_12 (fun H locs hP hD hS => ?_)
  have hP : va_P D vwCl [(sa, ob 1 [.ref sp, iv nw, iv 0, iv gp, iv rm, iv mv, iv 0]), (sp, ar cI 5 pr)] H := hP
  have hD : va_D A [(sa, ob 1 [.ref sp, iv nw, iv 0, iv gp, iv rm, iv mv, iv 0]), (sp, ar cI 5 pr)] := hD
  subst hQ
  exact r_Mv hx hb hr hlocks dX1_startAnew_15 hS (hP.sub (ws' := [(sa, ob 1 [.ref sp, iv nw, iv 0, iv gp, iv rm, iv mv, iv 0]), (sp, ar cI 5 pr)]) [0, 1] rfl) (hD.sub (ws' := [(sa, ob 1 [.ref sp, iv nw, iv 0, iv gp, iv rm, iv mv, iv 0]), (sp, ar cI 5 pr)]) [0, 1] (by decide) rfl) (⟨rfl, rfl⟩) (Nat.le_of_ble_eq_true rfl) (Nat.le_of_ble_eq_true rfl)

abbrev rm_X1_keepsLadderDown : Room := { frames := 0, cells := 0, slots := 0, locals := 0 }
set_option maxHeartbeats 4000000 in
set_option maxRecDepth 100000 in
/-- a price fits between its neighbours -/
theorem mt_X1_keepsLadderDown (l : Launch) (D : va_G) (cI cS cJ : ClassId) (sa : Nat) (sp : Nat) (pr : Int → Int) (wks : Int) (wk : Int) (gp : Int) (rm : Int) (mv : Int) (tk : Int) (j : Int) (v : Int) (hj : 0 ≤ j ∧ j < 5) (hv : 0 ≤ v ∧ v ≤ 1000) (hpp : ∀ i : Int, 0 ≤ i → i < 5 → 0 ≤ pr i ∧ pr i ≤ 1000) : cP l yX1_keepsLadderDown wsX1_keepsLadderDown rm_X1_keepsLadderDown [.ref sa, iv j, iv v] D (tyL cI cS cJ) [(sa, ob 1 [.ref sp, iv wks, iv wk, iv gp, iv rm, iv mv, iv tk]), (sp, ar cI 5 pr)] (zI (if (j ≤ 0 ∨ v ≤ pr (j - 1)) ∧ (4 ≤ j ∨ pr (j + 1) ≤ v) then 1 else 0)) := by
  refine en_P (cc := cX1_keepsLadderDown) (maxL := 5) (ret := (some .boolean)) (by decide) rfl (Nat.le_of_ble_eq_true rfl) ?_
  intro p e s m args below meth c ls hX hE hP hK hl Q hQ
  obtain ⟨hx, hb, hr, hml, hts, hown, hlocks, hnm⟩ := hX
  have hown : s.vm.findClass RX1 = some m.cls := hown
  have hl : lv_has ls 5 [(0, .ref sa), (1, iv j), (2, iv v)] := hl
  have inX1 : ∀ w ∈ u_ws RX1 TX1 7, w ∈ wsX1_keepsLadderDown := by decide +kernel
  have w0 : (Cond.fieldLink RX1 9 RX1 "prices" "[I").before args s = true := hts _ (by decide +kernel)
  refine lv_iload_n hx hb dX1_keepsLadderDown_0 rfl (lv_at hl 1 rfl) ?_
  refine i_if_le (tgt := 16) hx hb ⟨by omega, by omega⟩ dX1_keepsLadderDown_1 (by decide) (fun c_1 => ?_) (fun c_1 => ?_)
  · skip
    refine lv_iconst (v := zI 1) hx hb dX1_keepsLadderDown_16 rfl ?_
    refine lv_goto (tgt := 21) hx hb dX1_keepsLadderDown_17 (by decide) ?_
    refine lv_istore_n (lv' := [(3, iv 1), (0, .ref sa), (1, iv j), (2, iv v)]) hx hb dX1_keepsLadderDown_21 rfl hl (by decide) rfl (fun ls hl => ?_)
    refine lv_iload_n hx hb dX1_keepsLadderDown_22 rfl (lv_at hl 2 rfl) ?_
    refine lv_iconst (v := zI 4) hx hb dX1_keepsLadderDown_23 rfl ?_
    refine i_icmp_ge (tgt := 39) hx hb ⟨by omega, by omega⟩ ⟨by decide, by decide⟩ dX1_keepsLadderDown_24 (by decide) (fun c_2 => ?_) (fun c_2 => ?_)
    · skip
      refine lv_iconst (v := zI 1) hx hb dX1_keepsLadderDown_39 rfl ?_
      refine lv_goto (tgt := 44) hx hb dX1_keepsLadderDown_40 (by decide) ?_
      refine lv_istore (lv' := [(4, iv 1), (3, iv 1), (0, .ref sa), (1, iv j), (2, iv v)]) hx hb dX1_keepsLadderDown_44 hl (by decide) rfl (fun ls hl => ?_)
      refine lv_iload_n hx hb dX1_keepsLadderDown_46 rfl (lv_at hl 1 rfl) ?_
      refine i_if_eq (tgt := 59) hx hb ⟨by decide, by decide⟩ dX1_keepsLadderDown_47 (by decide) (fun c_3 => absurd c_3 (by decide)) (fun c_3 => ?_)
      refine lv_iload hx hb dX1_keepsLadderDown_50 (lv_at hl 0 rfl) ?_
      refine i_if_eq (tgt := 59) hx hb ⟨by decide, by decide⟩ dX1_keepsLadderDown_52 (by decide) (fun c_4 => absurd c_4 (by decide)) (fun c_4 => ?_)
      refine lv_iconst (v := zI 1) hx hb dX1_keepsLadderDown_55 rfl ?_
      refine lv_goto (tgt := 60) hx hb dX1_keepsLadderDown_56 (by decide) ?_
      subst hQ
      exact r_P hx hb hr hlocks (by first | rfl | decide) dX1_keepsLadderDown_60 (by first | exact congrArg zI (if_pos (by omega)).symm | exact congrArg zI (if_neg (by omega)).symm)
    · skip
      refine lv_iload_n hx hb dX1_keepsLadderDown_27 rfl (lv_at hl 3 rfl) ?_
      refine lv_aload_n hx hb dX1_keepsLadderDown_28 rfl (lv_at hl 1 rfl) ?_
      refine va_get (D := D) (ci := 1) (v := .ref sp) (C := RX1) (T := TX1) (N := 7) hx hb hts inX1 hown hK hP 0 rfl rfl 0 (by decide) w0 (fun _ h9 => h9) rfl dX1_keepsLadderDown_29 ?_
      refine lv_iload_n hx hb dX1_keepsLadderDown_32 rfl (lv_at hl 2 rfl) ?_
      refine lv_iconst (v := zI 1) hx hb dX1_keepsLadderDown_33 rfl ?_
      refine i_iadd hx hb dX1_keepsLadderDown_34 ?_
      have q2 := hpp (j + 1) (by omega) (by omega)
      refine i_iald hx hb hK hP 1 0 rfl rfl (by omega) (by omega) (by decide) dX1_keepsLadderDown_35 ?_
      refine i_icmp_lt (tgt := 43) hx hb ⟨by omega, by omega⟩ ⟨by omega, by omega⟩ dX1_keepsLadderDown_36 (by decide) (fun c_5 => ?_) (fun c_5 => ?_)
      · skip
        refine lv_iconst (v := zI 0) hx hb dX1_keepsLadderDown_43 rfl ?_
        refine lv_istore (lv' := [(4, iv 0), (3, iv 1), (0, .ref sa), (1, iv j), (2, iv v)]) hx hb dX1_keepsLadderDown_44 hl (by decide) rfl (fun ls hl => ?_)
        refine lv_iload_n hx hb dX1_keepsLadderDown_46 rfl (lv_at hl 1 rfl) ?_
        refine i_if_eq (tgt := 59) hx hb ⟨by decide, by decide⟩ dX1_keepsLadderDown_47 (by decide) (fun c_6 => absurd c_6 (by decide)) (fun c_6 => ?_)
        refine lv_iload hx hb dX1_keepsLadderDown_50 (lv_at hl 0 rfl) ?_
        refine i_if_eq (tgt := 59) hx hb ⟨by decide, by decide⟩ dX1_keepsLadderDown_52 (by decide) (fun c_7 => ?_) (fun c_7 => absurd (by decide) c_7)
        refine lv_iconst (v := zI 0) hx hb dX1_keepsLadderDown_59 rfl ?_
        subst hQ
        exact r_P hx hb hr hlocks (by first | rfl | decide) dX1_keepsLadderDown_60 (by first | exact congrArg zI (if_pos (by omega)).symm | exact congrArg zI (if_neg (by omega)).symm)
      · skip
        refine lv_iconst (v := zI 1) hx hb dX1_keepsLadderDown_39 rfl ?_
        refine lv_goto (tgt := 44) hx hb dX1_keepsLadderDown_40 (by decide) ?_
        refine lv_istore (lv' := [(4, iv 1), (3, iv 1), (0, .ref sa), (1, iv j), (2, iv v)]) hx hb dX1_keepsLadderDown_44 hl (by decide) rfl (fun ls hl => ?_)
        refine lv_iload_n hx hb dX1_keepsLadderDown_46 rfl (lv_at hl 1 rfl) ?_
        refine i_if_eq (tgt := 59) hx hb ⟨by decide, by decide⟩ dX1_keepsLadderDown_47 (by decide) (fun c_8 => absurd c_8 (by decide)) (fun c_8 => ?_)
        refine lv_iload hx hb dX1_keepsLadderDown_50 (lv_at hl 0 rfl) ?_
        refine i_if_eq (tgt := 59) hx hb ⟨by decide, by decide⟩ dX1_keepsLadderDown_52 (by decide) (fun c_9 => absurd c_9 (by decide)) (fun c_9 => ?_)
        refine lv_iconst (v := zI 1) hx hb dX1_keepsLadderDown_55 rfl ?_
        refine lv_goto (tgt := 60) hx hb dX1_keepsLadderDown_56 (by decide) ?_
        subst hQ
        exact r_P hx hb hr hlocks (by first | rfl | decide) dX1_keepsLadderDown_60 (by first | exact congrArg zI (if_pos (by omega)).symm | exact congrArg zI (if_neg (by omega)).symm)
  · skip
    refine lv_iload_n hx hb dX1_keepsLadderDown_4 rfl (lv_at hl 2 rfl) ?_
    refine lv_aload_n hx hb dX1_keepsLadderDown_5 rfl (lv_at hl 0 rfl) ?_
    refine va_get (D := D) (ci := 1) (v := .ref sp) (C := RX1) (T := TX1) (N := 7) hx hb hts inX1 hown hK hP 0 rfl rfl 0 (by decide) w0 (fun _ h9 => h9) rfl dX1_keepsLadderDown_6 ?_
    refine lv_iload_n hx hb dX1_keepsLadderDown_9 rfl (lv_at hl 1 rfl) ?_
    refine lv_iconst (v := zI 1) hx hb dX1_keepsLadderDown_10 rfl ?_
    refine i_isub hx hb dX1_keepsLadderDown_11 ?_
    have q1 := hpp (j - 1) (by omega) (by omega)
    refine i_iald hx hb hK hP 1 0 rfl rfl (by omega) (by omega) (by decide) dX1_keepsLadderDown_12 ?_
    refine i_icmp_gt (tgt := 20) hx hb ⟨by omega, by omega⟩ ⟨by omega, by omega⟩ dX1_keepsLadderDown_13 (by decide) (fun c_10 => ?_) (fun c_10 => ?_)
    · skip
      refine lv_iconst (v := zI 0) hx hb dX1_keepsLadderDown_20 rfl ?_
      refine lv_istore_n (lv' := [(3, iv 0), (0, .ref sa), (1, iv j), (2, iv v)]) hx hb dX1_keepsLadderDown_21 rfl hl (by decide) rfl (fun ls hl => ?_)
      refine lv_iload_n hx hb dX1_keepsLadderDown_22 rfl (lv_at hl 2 rfl) ?_
      refine lv_iconst (v := zI 4) hx hb dX1_keepsLadderDown_23 rfl ?_
      refine i_icmp_ge (tgt := 39) hx hb ⟨by omega, by omega⟩ ⟨by decide, by decide⟩ dX1_keepsLadderDown_24 (by decide) (fun c_11 => ?_) (fun c_11 => ?_)
      · skip
        refine lv_iconst (v := zI 1) hx hb dX1_keepsLadderDown_39 rfl ?_
        refine lv_goto (tgt := 44) hx hb dX1_keepsLadderDown_40 (by decide) ?_
        refine lv_istore (lv' := [(4, iv 1), (3, iv 0), (0, .ref sa), (1, iv j), (2, iv v)]) hx hb dX1_keepsLadderDown_44 hl (by decide) rfl (fun ls hl => ?_)
        refine lv_iload_n hx hb dX1_keepsLadderDown_46 rfl (lv_at hl 1 rfl) ?_
        refine i_if_eq (tgt := 59) hx hb ⟨by decide, by decide⟩ dX1_keepsLadderDown_47 (by decide) (fun c_12 => ?_) (fun c_12 => absurd (by decide) c_12)
        refine lv_iconst (v := zI 0) hx hb dX1_keepsLadderDown_59 rfl ?_
        subst hQ
        exact r_P hx hb hr hlocks (by first | rfl | decide) dX1_keepsLadderDown_60 (by first | exact congrArg zI (if_pos (by omega)).symm | exact congrArg zI (if_neg (by omega)).symm)
      · skip
        refine lv_iload_n hx hb dX1_keepsLadderDown_27 rfl (lv_at hl 3 rfl) ?_
        refine lv_aload_n hx hb dX1_keepsLadderDown_28 rfl (lv_at hl 1 rfl) ?_
        refine va_get (D := D) (ci := 1) (v := .ref sp) (C := RX1) (T := TX1) (N := 7) hx hb hts inX1 hown hK hP 0 rfl rfl 0 (by decide) w0 (fun _ h9 => h9) rfl dX1_keepsLadderDown_29 ?_
        refine lv_iload_n hx hb dX1_keepsLadderDown_32 rfl (lv_at hl 2 rfl) ?_
        refine lv_iconst (v := zI 1) hx hb dX1_keepsLadderDown_33 rfl ?_
        refine i_iadd hx hb dX1_keepsLadderDown_34 ?_
        have q2 := hpp (j + 1) (by omega) (by omega)
        refine i_iald hx hb hK hP 1 0 rfl rfl (by omega) (by omega) (by decide) dX1_keepsLadderDown_35 ?_
        refine i_icmp_lt (tgt := 43) hx hb ⟨by omega, by omega⟩ ⟨by omega, by omega⟩ dX1_keepsLadderDown_36 (by decide) (fun c_13 => ?_) (fun c_13 => ?_)
        · skip
          refine lv_iconst (v := zI 0) hx hb dX1_keepsLadderDown_43 rfl ?_
          refine lv_istore (lv' := [(4, iv 0), (3, iv 0), (0, .ref sa), (1, iv j), (2, iv v)]) hx hb dX1_keepsLadderDown_44 hl (by decide) rfl (fun ls hl => ?_)
          refine lv_iload_n hx hb dX1_keepsLadderDown_46 rfl (lv_at hl 1 rfl) ?_
          refine i_if_eq (tgt := 59) hx hb ⟨by decide, by decide⟩ dX1_keepsLadderDown_47 (by decide) (fun c_14 => ?_) (fun c_14 => absurd (by decide) c_14)
          refine lv_iconst (v := zI 0) hx hb dX1_keepsLadderDown_59 rfl ?_
          subst hQ
          exact r_P hx hb hr hlocks (by first | rfl | decide) dX1_keepsLadderDown_60 (by first | exact congrArg zI (if_pos (by omega)).symm | exact congrArg zI (if_neg (by omega)).symm)
        · skip
          refine lv_iconst (v := zI 1) hx hb dX1_keepsLadderDown_39 rfl ?_
          refine lv_goto (tgt := 44) hx hb dX1_keepsLadderDown_40 (by decide) ?_
          refine lv_istore (lv' := [(4, iv 1), (3, iv 0), (0, .ref sa), (1, iv j), (2, iv v)]) hx hb dX1_keepsLadderDown_44 hl (by decide) rfl (fun ls hl => ?_)
          refine lv_iload_n hx hb dX1_keepsLadderDown_46 rfl (lv_at hl 1 rfl) ?_
          refine i_if_eq (tgt := 59) hx hb ⟨by decide, by decide⟩ dX1_keepsLadderDown_47 (by decide) (fun c_15 => ?_) (fun c_15 => absurd (by decide) c_15)
          refine lv_iconst (v := zI 0) hx hb dX1_keepsLadderDown_59 rfl ?_
          subst hQ
          exact r_P hx hb hr hlocks (by first | rfl | decide) dX1_keepsLadderDown_60 (by first | exact congrArg zI (if_pos (by omega)).symm | exact congrArg zI (if_neg (by omega)).symm)
    · skip
      refine lv_iconst (v := zI 1) hx hb dX1_keepsLadderDown_16 rfl ?_
      refine lv_goto (tgt := 21) hx hb dX1_keepsLadderDown_17 (by decide) ?_
      refine lv_istore_n (lv' := [(3, iv 1), (0, .ref sa), (1, iv j), (2, iv v)]) hx hb dX1_keepsLadderDown_21 rfl hl (by decide) rfl (fun ls hl => ?_)
      refine lv_iload_n hx hb dX1_keepsLadderDown_22 rfl (lv_at hl 2 rfl) ?_
      refine lv_iconst (v := zI 4) hx hb dX1_keepsLadderDown_23 rfl ?_
      refine i_icmp_ge (tgt := 39) hx hb ⟨by omega, by omega⟩ ⟨by decide, by decide⟩ dX1_keepsLadderDown_24 (by decide) (fun c_16 => ?_) (fun c_16 => ?_)
      · skip
        refine lv_iconst (v := zI 1) hx hb dX1_keepsLadderDown_39 rfl ?_
        refine lv_goto (tgt := 44) hx hb dX1_keepsLadderDown_40 (by decide) ?_
        refine lv_istore (lv' := [(4, iv 1), (3, iv 1), (0, .ref sa), (1, iv j), (2, iv v)]) hx hb dX1_keepsLadderDown_44 hl (by decide) rfl (fun ls hl => ?_)
        refine lv_iload_n hx hb dX1_keepsLadderDown_46 rfl (lv_at hl 1 rfl) ?_
        refine i_if_eq (tgt := 59) hx hb ⟨by decide, by decide⟩ dX1_keepsLadderDown_47 (by decide) (fun c_17 => absurd c_17 (by decide)) (fun c_17 => ?_)
        refine lv_iload hx hb dX1_keepsLadderDown_50 (lv_at hl 0 rfl) ?_
        refine i_if_eq (tgt := 59) hx hb ⟨by decide, by decide⟩ dX1_keepsLadderDown_52 (by decide) (fun c_18 => absurd c_18 (by decide)) (fun c_18 => ?_)
        refine lv_iconst (v := zI 1) hx hb dX1_keepsLadderDown_55 rfl ?_
        refine lv_goto (tgt := 60) hx hb dX1_keepsLadderDown_56 (by decide) ?_
        subst hQ
        exact r_P hx hb hr hlocks (by first | rfl | decide) dX1_keepsLadderDown_60 (by first | exact congrArg zI (if_pos (by omega)).symm | exact congrArg zI (if_neg (by omega)).symm)
      · skip
        refine lv_iload_n hx hb dX1_keepsLadderDown_27 rfl (lv_at hl 3 rfl) ?_
        refine lv_aload_n hx hb dX1_keepsLadderDown_28 rfl (lv_at hl 1 rfl) ?_
        refine va_get (D := D) (ci := 1) (v := .ref sp) (C := RX1) (T := TX1) (N := 7) hx hb hts inX1 hown hK hP 0 rfl rfl 0 (by decide) w0 (fun _ h9 => h9) rfl dX1_keepsLadderDown_29 ?_
        refine lv_iload_n hx hb dX1_keepsLadderDown_32 rfl (lv_at hl 2 rfl) ?_
        refine lv_iconst (v := zI 1) hx hb dX1_keepsLadderDown_33 rfl ?_
        refine i_iadd hx hb dX1_keepsLadderDown_34 ?_
        have q2 := hpp (j + 1) (by omega) (by omega)
        refine i_iald hx hb hK hP 1 0 rfl rfl (by omega) (by omega) (by decide) dX1_keepsLadderDown_35 ?_
        refine i_icmp_lt (tgt := 43) hx hb ⟨by omega, by omega⟩ ⟨by omega, by omega⟩ dX1_keepsLadderDown_36 (by decide) (fun c_19 => ?_) (fun c_19 => ?_)
        · skip
          refine lv_iconst (v := zI 0) hx hb dX1_keepsLadderDown_43 rfl ?_
          refine lv_istore (lv' := [(4, iv 0), (3, iv 1), (0, .ref sa), (1, iv j), (2, iv v)]) hx hb dX1_keepsLadderDown_44 hl (by decide) rfl (fun ls hl => ?_)
          refine lv_iload_n hx hb dX1_keepsLadderDown_46 rfl (lv_at hl 1 rfl) ?_
          refine i_if_eq (tgt := 59) hx hb ⟨by decide, by decide⟩ dX1_keepsLadderDown_47 (by decide) (fun c_20 => absurd c_20 (by decide)) (fun c_20 => ?_)
          refine lv_iload hx hb dX1_keepsLadderDown_50 (lv_at hl 0 rfl) ?_
          refine i_if_eq (tgt := 59) hx hb ⟨by decide, by decide⟩ dX1_keepsLadderDown_52 (by decide) (fun c_21 => ?_) (fun c_21 => absurd (by decide) c_21)
          refine lv_iconst (v := zI 0) hx hb dX1_keepsLadderDown_59 rfl ?_
          subst hQ
          exact r_P hx hb hr hlocks (by first | rfl | decide) dX1_keepsLadderDown_60 (by first | exact congrArg zI (if_pos (by omega)).symm | exact congrArg zI (if_neg (by omega)).symm)
        · skip
          refine lv_iconst (v := zI 1) hx hb dX1_keepsLadderDown_39 rfl ?_
          refine lv_goto (tgt := 44) hx hb dX1_keepsLadderDown_40 (by decide) ?_
          refine lv_istore (lv' := [(4, iv 1), (3, iv 1), (0, .ref sa), (1, iv j), (2, iv v)]) hx hb dX1_keepsLadderDown_44 hl (by decide) rfl (fun ls hl => ?_)
          refine lv_iload_n hx hb dX1_keepsLadderDown_46 rfl (lv_at hl 1 rfl) ?_
          refine i_if_eq (tgt := 59) hx hb ⟨by decide, by decide⟩ dX1_keepsLadderDown_47 (by decide) (fun c_22 => absurd c_22 (by decide)) (fun c_22 => ?_)
          refine lv_iload hx hb dX1_keepsLadderDown_50 (lv_at hl 0 rfl) ?_
          refine i_if_eq (tgt := 59) hx hb ⟨by decide, by decide⟩ dX1_keepsLadderDown_52 (by decide) (fun c_23 => absurd c_23 (by decide)) (fun c_23 => ?_)
          refine lv_iconst (v := zI 1) hx hb dX1_keepsLadderDown_55 rfl ?_
          refine lv_goto (tgt := 60) hx hb dX1_keepsLadderDown_56 (by decide) ?_
          subst hQ
          exact r_P hx hb hr hlocks (by first | rfl | decide) dX1_keepsLadderDown_60 (by first | exact congrArg zI (if_pos (by omega)).symm | exact congrArg zI (if_neg (by omega)).symm)
