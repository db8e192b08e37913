abbrev rm_X2_init : Room := { frames := 1, cells := 2, slots := 8, locals := 20 }
set_option maxHeartbeats 4000000 in
set_option maxRecDepth 100000 in
/-- a new store -/
theorem mt_X2_init (l : Launch) (D : va_G) (cI cS cJ : ClassId) (h : Nat)  : cM l yX2_init wsX2_init rm_X2_init [.ref h] D (tyL cI cS cJ) [(h, ob 2 [.null, .null, iv 0, iv 0, iv 0])] (fun r_ w_ => ∃ hd : Nat, ∃ hp : Nat, r_ = none ∧ w_ = [(h, ob 2 [.ref hd, .ref hp, iv 0, iv (-1), iv 0]), (hd, ar cI 5 ((fun _ => 0))), (hp, ar cI 3 ((fun _ => 0)))]) 2 8 := by
  refine en_M (cc := cX2_init) (maxL := 1) (ret := none) (by decide) rfl (Nat.le_of_ble_eq_true rfl) ?_
  intro p e s m args below meth c ls A hX hE hP hK hD hS hA hl Q hQ
  obtain ⟨hx, hb, hr, hml, hts, hown, hlocks, hnm⟩ := hX
  have hown : s.vm.findClass RX2 = some m.cls := hown
  have hl : lv_has ls 1 [(0, .ref h)] := hl
  have inX2 : ∀ w ∈ u_ws RX2 TX2 5, w ∈ wsX2_init := by decide +kernel
  have w0 : (Cond.methodLink RX2 3 objectInit).before args s = true := hts _ (by decide +kernel)
  have w1 : (Cond.instanceMethod objectInit).before args s = true := hts _ (by decide +kernel)
  have w2 : (Cond.code objectInit ⟨#[0xb1]⟩ 1 none).before args s = true := hts _ (by decide +kernel)
  have w3 : (Cond.arrayClass .int).before args s = true := hts _ (by decide +kernel)
  have w4 : (Cond.fieldLink RX2 9 RX2 "demands" "[I").before args s = true := hts _ (by decide +kernel)
  have w5 : (Cond.fieldLink RX2 15 RX2 "pieces" "[I").before args s = true := hts _ (by decide +kernel)
  have w6 : (Cond.fieldLink RX2 18 RX2 "markedDownIn" "I").before args s = true := hts _ (by decide +kernel)
  refine lv_aload_n hx hb dX2_init_0 rfl (lv_at hl 0 rfl) ?_
  refine W.objInit hx hb hown w0 w1 w2 rfl (by rw [hml]; exact hl.1) rfl dX2_init_1 (Nat.le_of_ble_eq_true rfl) (Nat.le_of_ble_eq_true rfl) ?_
  refine W.eq (g2 := F0 m 4 ls []) rfl ?_
  refine lv_aload_n hx hb dX2_init_4 rfl (lv_at hl 0 rfl) ?_
  refine lv_iconst (v := zI 5) hx hb dX2_init_5 rfl ?_
  refine i_newa (n := 5) (N := 5) hx hb w3 hK hP hD hS hA rfl (Nat.le_of_ble_eq_true rfl) (Nat.le_of_ble_eq_true rfl) (Nat.le_of_ble_eq_true rfl) dX2_init_6 (fun q_1 H hP hD hS => ?_)
  have hP : va_P D vwCl [(h, ob 2 [.null, .null, iv 0, iv 0, iv 0]), (q_1, ar cI 5 ((fun _ => 0)))] H := hP
  have hD : va_D A [(h, ob 2 [.null, .null, iv 0, iv 0, iv 0]), (q_1, ar cI 5 ((fun _ => 0)))] := hD
  refine va_putF (D := D) (ci := 2) (v := .ref q_1) (ty := (.array .int)) (C := RX2) (T := TX2) (N := 5) hx hb hts inX2 tyX2 tyX2_ok nmX2 hown hK hP hD hS 0 rfl rfl 0 (by decide) w4 (fun _ h9 => h9) rfl hnm rfl (by decide +kernel) rfl rfl (Nat.le_of_ble_eq_true rfl) dX2_init_8 (fun H locs hP hD hS => ?_)
  have hP : va_P D vwCl [(h, ob 2 [.ref q_1, .null, iv 0, iv 0, iv 0]), (q_1, ar cI 5 ((fun _ => 0)))] H := hP
  have hD : va_D A [(h, ob 2 [.ref q_1, .null, iv 0, iv 0, iv 0]), (q_1, ar cI 5 ((fun _ => 0)))] := hD
  refine lv_aload_n hx hb dX2_init_11 rfl (lv_at hl 0 rfl) ?_
  refine lv_iconst (v := zI 3) hx hb dX2_init_12 rfl ?_
  refine i_newa (n := 3) (N := 3) hx hb w3 hK hP hD hS hA rfl (Nat.le_of_ble_eq_true rfl) (Nat.le_of_ble_eq_true rfl) (Nat.le_of_ble_eq_true rfl) dX2_init_13 (fun q_2 H hP hD hS => ?_)
  have hP : va_P D vwCl [(h, ob 2 [.ref q_1, .null, iv 0, iv 0, iv 0]), (q_1, ar cI 5 ((fun _ => 0))), (q_2, ar cI 3 ((fun _ => 0)))] H := hP
  have hD : va_D A [(h, ob 2 [.ref q_1, .null, iv 0, iv 0, iv 0]), (q_1, ar cI 5 ((fun _ => 0))), (q_2, ar cI 3 ((fun _ => 0)))] := hD
  refine va_putF (D := D) (ci := 2) (v := .ref q_2) (ty := (.array .int)) (C := RX2) (T := TX2) (N := 5) hx hb hts inX2 tyX2 tyX2_ok nmX2 hown hK hP hD hS 0 rfl rfl 1 (by decide) w5 (fun _ h9 => h9) rfl hnm rfl (by decide +kernel) rfl rfl (Nat.le_of_ble_eq_true rfl) dX2_init_15 (fun H locs hP hD hS => ?_)
  have hP : va_P D vwCl [(h, ob 2 [.ref q_1, .ref q_2, iv 0, iv 0, iv 0]), (q_1, ar cI 5 ((fun _ => 0))), (q_2, ar cI 3 ((fun _ => 0)))] H := hP
  have hD : va_D A [(h, ob 2 [.ref q_1, .ref q_2, iv 0, iv 0, iv 0]), (q_1, ar cI 5 ((fun _ => 0))), (q_2, ar cI 3 ((fun _ => 0)))] := hD
  refine lv_aload_n hx hb dX2_init_18 rfl (lv_at hl 0 rfl) ?_
  refine lv_iconst (v := zI (-1)) hx hb dX2_init_19 rfl ?_
  refine va_put (D := D) (ci := 2) (v := iv (-1)) (ty := .int) (C := RX2) (T := TX2) (N := 5) hx hb hts inX2 tyX2 tyX2_ok nmX2 hown hK hP hD hS 0 rfl rfl 3 (by decide) w6 (fun _ h9 => h9) rfl (by decide +kernel) rfl rfl (Nat.le_of_ble_eq_true rfl) dX2_init_20 (fun H locs hP hD hS => ?_)
  have hP : va_P D vwCl [(h, ob 2 [.ref q_1, .ref q_2, iv 0, iv (-1), iv 0]), (q_1, ar cI 5 ((fun _ => 0))), (q_2, ar cI 3 ((fun _ => 0)))] H := hP
  have hD : va_D A [(h, ob 2 [.ref q_1, .ref q_2, iv 0, iv (-1), iv 0]), (q_1, ar cI 5 ((fun _ => 0))), (q_2, ar cI 3 ((fun _ => 0)))] := hD
  subst hQ
  exact r_Mv hx hb hr hlocks dX2_init_23 hS (hP.sub (ws' := [(h, ob 2 [.ref q_1, .ref q_2, iv 0, iv (-1), iv 0]), (q_1, ar cI 5 ((fun _ => 0))), (q_2, ar cI 3 ((fun _ => 0)))]) [0, 1, 2] rfl) (hD.sub (ws' := [(h, ob 2 [.ref q_1, .ref q_2, iv 0, iv (-1), iv 0]), (q_1, ar cI 5 ((fun _ => 0))), (q_2, ar cI 3 ((fun _ => 0)))]) [0, 1, 2] (by decide) rfl) (⟨q_1, q_2, rfl, rfl⟩) (Nat.le_of_ble_eq_true rfl) (Nat.le_of_ble_eq_true rfl)

abbrev rm_X2_startAnew : Room := { frames := 0, cells := 0, slots := 0, locals := 0 }
set_option maxHeartbeats 4000000 in
set_option maxRecDepth 100000 in
/-- a season begins -/
theorem mt_X2_startAnew (l : Launch) (D : va_G) (cI cS cJ : ClassId) (h : Nat) (hd : Nat) (hp : Nat) (d : Int → Int) (k : Int → Int) (st : Int) (md : Int) (ps : Int)  : cM l yX2_startAnew wsX2_startAnew rm_X2_startAnew [.ref h] D (tyL cI cS cJ) [(h, ob 2 [.ref hd, .ref hp, iv st, iv md, iv ps]), (hd, ar cI 5 d), (hp, ar cI 3 k)] (fun r_ w_ => r_ = none ∧ w_ = [(h, ob 2 [.ref hd, .ref hp, iv 0, iv (-1), iv 0]), (hd, ar cI 5 d), (hp, ar cI 3 k)]) 0 0 := by
  refine en_M (cc := cX2_startAnew) (maxL := 1) (ret := none) (by decide) rfl (Nat.le_of_ble_eq_true rfl) ?_
  intro p e s m args below meth c ls A hX hE hP hK hD hS hA hl Q hQ
  obtain ⟨hx, hb, hr, hml, hts, hown, hlocks, hnm⟩ := hX
  have hown : s.vm.findClass RX2 = some m.cls := hown
  have hl : lv_has ls 1 [(0, .ref h)] := hl
  have inX2 : ∀ w ∈ u_ws RX2 TX2 5, w ∈ wsX2_startAnew := by decide +kernel
  have w0 : (Cond.fieldLink RX2 22 RX2 "step" "I").before args s = true := hts _ (by decide +kernel)
  have w1 : (Cond.fieldLink RX2 18 RX2 "markedDownIn" "I").before args s = true := hts _ (by decide +kernel)
  have w2 : (Cond.fieldLink RX2 25 RX2 "piecesSold" "I").before args s = true := hts _ (by decide +kernel)
  refine lv_aload_n hx hb dX2_startAnew_0 rfl (lv_at hl 0 rfl) ?_
  refine lv_iconst (v := zI 0) hx hb dX2_startAnew_1 rfl ?_
  refine va_put (D := D) (ci := 2) (v := iv 0) (ty := .int) (C := RX2) (T := TX2) (N := 5) hx hb hts inX2 tyX2 tyX2_ok nmX2 hown hK hP hD hS 0 rfl rfl 2 (by decide) w0 (fun _ h9 => h9) rfl (by decide +kernel) rfl rfl (Nat.le_of_ble_eq_true rfl) dX2_startAnew_2 (fun H locs hP hD hS => ?_)
  have hP : va_P D vwCl [(h, ob 2 [.ref hd, .ref hp, iv 0, iv md, iv ps]), (hd, ar cI 5 d), (hp, ar cI 3 k)] H := hP
  have hD : va_D A [(h, ob 2 [.ref hd, .ref hp, iv 0, iv md, iv ps]), (hd, ar cI 5 d), (hp, ar cI 3 k)] := hD
  refine lv_aload_n hx hb dX2_startAnew_5 rfl (lv_at hl 0 rfl) ?_
  refine lv_iconst (v := zI (-1)) hx hb dX2_startAnew_6 rfl ?_
  refine va_put (D := D) (ci := 2) (v := iv (-1)) (ty := .int) (C := RX2) (T := TX2) (N := 5) hx hb hts inX2 tyX2 tyX2_ok nmX2 hown hK hP hD hS 0 rfl rfl 3 (by decide) w1 (fun _ h9 => h9) rfl (by decide +kernel) rfl rfl (Nat.le_of_ble_eq_true rfl) dX2_startAnew_7 (fun H locs hP hD hS => ?_)
  have hP : va_P D vwCl [(h, ob 2 [.ref hd, .ref hp, iv 0, iv (-1), iv ps]), (hd, ar cI 5 d), (hp, ar cI 3 k)] H := hP
  have hD : va_D A [(h, ob 2 [.ref hd, .ref hp, iv 0, iv (-1), iv ps]), (hd, ar cI 5 d), (hp, ar cI 3 k)] := hD
  refine lv_aload_n hx hb dX2_startAnew_10 rfl (lv_at hl 0 rfl) ?_
  refine lv_iconst (v := zI 0) hx hb dX2_startAnew_11 rfl ?_
  refine va_put (D := D) (ci := 2) (v := iv 0) (ty := .int) (C := RX2) (T := TX2) (N := 5) hx hb hts inX2 tyX2 tyX2_ok nmX2 hown hK hP hD hS 0 rfl rfl 4 (by decide) w2 (fun _ h9 => h9) rfl (by decide +kernel) rfl rfl (Nat.le_of_ble_eq_true rfl) dX2_startAnew_12 (fun H locs hP hD hS => ?_)
  have hP : va_P D vwCl [(h, ob 2 [.ref hd, .ref hp, iv 0, iv (-1), iv 0]), (hd, ar cI 5 d), (hp, ar cI 3 k)] H := hP
  have hD : va_D A [(h, ob 2 [.ref hd, .ref hp, iv 0, iv (-1), iv 0]), (hd, ar cI 5 d), (hp, ar cI 3 k)] := hD
  subst hQ
  exact r_Mv hx hb hr hlocks dX2_startAnew_15 hS (hP.sub (ws' := [(h, ob 2 [.ref hd, .ref hp, iv 0, iv (-1), iv 0]), (hd, ar cI 5 d), (hp, ar cI 3 k)]) [0, 1, 2] rfl) (hD.sub (ws' := [(h, ob 2 [.ref hd, .ref hp, iv 0, iv (-1), iv 0]), (hd, ar cI 5 d), (hp, ar cI 3 k)]) [0, 1, 2] (by decide) rfl) (⟨rfl, rfl⟩) (Nat.le_of_ble_eq_true rfl) (Nat.le_of_ble_eq_true rfl)

abbrev rm_X2_waitFrom : Room := { frames := 1, cells := 0, slots := 0, locals := 21 }
set_option maxHeartbeats 4000000 in
set_option maxRecDepth 100000 in
/-- weeks to wait -/
theorem mt_X2_waitFrom (l : Launch) (D : va_G) (cI cS cJ : ClassId) (h : Nat) (hd : Nat) (hp : Nat) (d : Int → Int) (k : Int → Int) (st : Int) (md : Int) (ps : Int) (wk : Int) (g : Int) (hm : -1 ≤ md ∧ md ≤ 100) (hg : 0 ≤ g ∧ g ≤ 100) (hwk : 0 ≤ wk ∧ wk ≤ 100) : cP l yX2_waitFrom wsX2_waitFrom rm_X2_waitFrom [.ref h, iv wk, iv g] D (tyL cI cS cJ) [(h, ob 2 [.ref hd, .ref hp, iv st, iv md, iv ps]), (hd, ar cI 5 d), (hp, ar cI 3 k)] (zI (wtv md g wk)) := by
  refine en_P (cc := cX2_waitFrom) (maxL := 3) (ret := (some .int)) (by decide) rfl (Nat.le_of_ble_eq_true rfl) ?_
  intro p e s m args below meth c ls hX hE hP hK hl Q hQ
  obtain ⟨hx, hb, hr, hml, hts, hown, hlocks, hnm⟩ := hX
  have hown : s.vm.findClass RX2 = some m.cls := hown
  have hl : lv_has ls 3 [(0, .ref h), (1, iv wk), (2, iv g)] := hl
  have inX2 : ∀ w ∈ u_ws RX2 TX2 5, w ∈ wsX2_waitFrom := by decide +kernel
  have w0 : (Cond.fieldLink RX2 18 RX2 "markedDownIn" "I").before args s = true := hts _ (by decide +kernel)
  have w1 : (Cond.methodLink RX2 28 Lib.Math.max.name).before args s = true := hts _ (by decide +kernel)
  have w2 : (Cond.static Lib.Math.max.name).before args s = true := hts _ (by decide +kernel)
  have w3 : (Cond.initialized "java/lang/Math").before args s = true := hts _ (by decide +kernel)
  have w4 : (Cond.code Lib.Math.max.name Lib.Math.max.code 2 (some .int)).before args s = true := hts _ (by decide +kernel)
  refine lv_aload_n hx hb dX2_waitFrom_0 rfl (lv_at hl 0 rfl) ?_
  refine va_get (D := D) (ci := 2) (v := iv md) (C := RX2) (T := TX2) (N := 5) hx hb hts inX2 hown hK hP 0 rfl rfl 3 (by decide) w0 (fun _ h9 => h9) rfl dX2_waitFrom_1 ?_
  refine lv_iconst (v := zI (-1)) hx hb dX2_waitFrom_4 rfl ?_
  refine i_icmp_ne (tgt := 12) hx hb ⟨by omega, by omega⟩ ⟨by decide, by decide⟩ dX2_waitFrom_5 (by decide) (fun c_1 => ?_) (fun c_1 => ?_)
  · skip
    refine lv_iconst (v := zI 0) hx hb dX2_waitFrom_12 rfl ?_
    refine lv_aload_n hx hb dX2_waitFrom_13 rfl (lv_at hl 0 rfl) ?_
    refine va_get (D := D) (ci := 2) (v := iv md) (C := RX2) (T := TX2) (N := 5) hx hb hts inX2 hown hK hP 0 rfl rfl 3 (by decide) w0 (fun _ h9 => h9) rfl dX2_waitFrom_14 ?_
    refine lv_iload_n hx hb dX2_waitFrom_17 rfl (lv_at hl 2 rfl) ?_
    refine i_iadd hx hb dX2_waitFrom_18 ?_
    refine lv_iload_n hx hb dX2_waitFrom_19 rfl (lv_at hl 1 rfl) ?_
    refine i_isub hx hb dX2_waitFrom_20 ?_
    refine i_max hx hb (hml.trans hl.1.symm) hown w1 w2 w3 w4 ⟨Nat.le_of_ble_eq_true rfl, Nat.le_of_ble_eq_true rfl, Nat.le_of_ble_eq_true rfl, Nat.le_of_ble_eq_true rfl⟩ (Nat.le_of_ble_eq_true rfl) ⟨by decide, by decide⟩ ⟨by omega, by omega⟩ dX2_waitFrom_21 ?_
    subst hQ
    exact r_P hx hb hr hlocks (by rfl) dX2_waitFrom_24 (by congr 1; unfold wtv; first | (rw [if_pos (by assumption)]) | (rw [if_neg (by assumption)]))
  · skip
    refine lv_iconst (v := zI 0) hx hb dX2_waitFrom_8 rfl ?_
    refine lv_goto (tgt := 24) hx hb dX2_waitFrom_9 (by decide) ?_
    subst hQ
    exact r_P hx hb hr hlocks (by rfl) dX2_waitFrom_24 (by congr 1; unfold wtv; first | (rw [if_pos (by assumption)]) | (rw [if_neg (by assumption)]))

abbrev rm_X2_wholeStock : Room := { frames := 0, cells := 0, slots := 0, locals := 0 }
set_option maxHeartbeats 4000000 in
set_option maxRecDepth 100000 in
/-- the whole stock -/
theorem mt_X2_wholeStock (l : Launch) (D : va_G) (cI cS cJ : ClassId) (h : Nat) (hd : Nat) (hp : Nat) (d : Int → Int) (k : Int → Int) (st : Int) (md : Int) (ps : Int)  : cP l yX2_wholeStock wsX2_wholeStock rm_X2_wholeStock [.ref h] D (tyL cI cS cJ) [(h, ob 2 [.ref hd, .ref hp, iv st, iv md, iv ps]), (hd, ar cI 5 d), (hp, ar cI 3 k)] (zI (whl k)) := by
  refine en_P (cc := cX2_wholeStock) (maxL := 3) (ret := (some .int)) (by decide) rfl (Nat.le_of_ble_eq_true rfl) ?_
  intro p e s m args below meth c ls hX hE hP hK hl Q hQ
  obtain ⟨hx, hb, hr, hml, hts, hown, hlocks, hnm⟩ := hX
  have hown : s.vm.findClass RX2 = some m.cls := hown
  have hl : lv_has ls 3 [(0, .ref h)] := hl
  have inX2 : ∀ w ∈ u_ws RX2 TX2 5, w ∈ wsX2_wholeStock := by decide +kernel
  have w0 : (Cond.fieldLink RX2 15 RX2 "pieces" "[I").before args s = true := hts _ (by decide +kernel)
  refine lv_iconst (v := zI 0) hx hb dX2_wholeStock_0 rfl ?_
  refine lv_istore_n (lv' := [(1, iv 0), (0, .ref h)]) hx hb dX2_wholeStock_1 rfl hl (by decide) rfl (fun ls hl => ?_)
  refine lv_iconst (v := zI 0) hx hb dX2_wholeStock_2 rfl ?_
  refine lv_istore_n (lv' := [(2, iv 0), (1, iv 0), (0, .ref h)]) hx hb dX2_wholeStock_3 rfl hl (by decide) rfl (fun ls hl => ?_)
  refine lv_iload_n hx hb dX2_wholeStock_4 rfl (lv_at hl 0 rfl) ?_
  refine lv_iconst (v := zI 3) hx hb dX2_wholeStock_5 rfl ?_
  refine i_icmp_ge (tgt := 24) hx hb ⟨by decide, by decide⟩ ⟨by decide, by decide⟩ dX2_wholeStock_6 (by decide) (fun c_1 => absurd c_1 (by decide)) (fun c_1 => ?_)
  refine lv_iload_n hx hb dX2_wholeStock_9 rfl (lv_at hl 1 rfl) ?_
  refine lv_aload_n hx hb dX2_wholeStock_10 rfl (lv_at hl 2 rfl) ?_
  refine va_get (D := D) (ci := 2) (v := .ref hp) (C := RX2) (T := TX2) (N := 5) hx hb hts inX2 hown hK hP 0 rfl rfl 1 (by decide) w0 (fun _ h9 => h9) rfl dX2_wholeStock_11 ?_
  refine lv_iload_n hx hb dX2_wholeStock_14 rfl (lv_at hl 0 rfl) ?_
  refine i_iald hx hb hK hP 2 0 rfl rfl (by decide) (by decide) (by decide) dX2_wholeStock_15 ?_
  refine i_iadd hx hb dX2_wholeStock_16 ?_
  refine lv_istore_n (lv' := [(1, iv (0 + (k 0))), (2, iv 0), (0, .ref h)]) hx hb dX2_wholeStock_17 rfl hl (by decide) rfl (fun ls hl => ?_)
  refine i_iinc (n := 1) (lv' := [(2, iv 1), (1, iv (0 + (k 0))), (0, .ref h)]) hx hb dX2_wholeStock_18 hl (k := 1) rfl (by decide) rfl (fun ls hl => ?_)
  refine lv_goto (tgt := 4) hx hb dX2_wholeStock_21 (by decide) ?_
  refine lv_iload_n hx hb dX2_wholeStock_4 rfl (lv_at hl 0 rfl) ?_
  refine lv_iconst (v := zI 3) hx hb dX2_wholeStock_5 rfl ?_
  refine i_icmp_ge (tgt := 24) hx hb ⟨by decide, by decide⟩ ⟨by decide, by decide⟩ dX2_wholeStock_6 (by decide) (fun c_2 => absurd c_2 (by decide)) (fun c_2 => ?_)
  refine lv_iload_n hx hb dX2_wholeStock_9 rfl (lv_at hl 1 rfl) ?_
  refine lv_aload_n hx hb dX2_wholeStock_10 rfl (lv_at hl 2 rfl) ?_
  refine va_get (D := D) (ci := 2) (v := .ref hp) (C := RX2) (T := TX2) (N := 5) hx hb hts inX2 hown hK hP 0 rfl rfl 1 (by decide) w0 (fun _ h9 => h9) rfl dX2_wholeStock_11 ?_
  refine lv_iload_n hx hb dX2_wholeStock_14 rfl (lv_at hl 0 rfl) ?_
  refine i_iald hx hb hK hP 2 0 rfl rfl (by decide) (by decide) (by decide) dX2_wholeStock_15 ?_
  refine i_iadd hx hb dX2_wholeStock_16 ?_
  refine lv_istore_n (lv' := [(1, iv ((0 + (k 0)) + (k 1))), (2, iv 1), (0, .ref h)]) hx hb dX2_wholeStock_17 rfl hl (by decide) rfl (fun ls hl => ?_)
  refine i_iinc (n := 1) (lv' := [(2, iv 2), (1, iv ((0 + (k 0)) + (k 1))), (0, .ref h)]) hx hb dX2_wholeStock_18 hl (k := 1) rfl (by decide) rfl (fun ls hl => ?_)
  refine lv_goto (tgt := 4) hx hb dX2_wholeStock_21 (by decide) ?_
  refine lv_iload_n hx hb dX2_wholeStock_4 rfl (lv_at hl 0 rfl) ?_
  refine lv_iconst (v := zI 3) hx hb dX2_wholeStock_5 rfl ?_
  refine i_icmp_ge (tgt := 24) hx hb ⟨by decide, by decide⟩ ⟨by decide, by decide⟩ dX2_wholeStock_6 (by decide) (fun c_3 => absurd c_3 (by decide)) (fun c_3 => ?_)
  refine lv_iload_n hx hb dX2_wholeStock_9 rfl (lv_at hl 1 rfl) ?_
  refine lv_aload_n hx hb dX2_wholeStock_10 rfl (lv_at hl 2 rfl) ?_
  refine va_get (D := D) (ci := 2) (v := .ref hp) (C := RX2) (T := TX2) (N := 5) hx hb hts inX2 hown hK hP 0 rfl rfl 1 (by decide) w0 (fun _ h9 => h9) rfl dX2_wholeStock_11 ?_
  refine lv_iload_n hx hb dX2_wholeStock_14 rfl (lv_at hl 0 rfl) ?_
  refine i_iald hx hb hK hP 2 0 rfl rfl (by decide) (by decide) (by decide) dX2_wholeStock_15 ?_
  refine i_iadd hx hb dX2_wholeStock_16 ?_
  refine lv_istore_n (lv' := [(1, iv (((0 + (k 0)) + (k 1)) + (k 2))), (2, iv 2), (0, .ref h)]) hx hb dX2_wholeStock_17 rfl hl (by decide) rfl (fun ls hl => ?_)
  refine i_iinc (n := 1) (lv' := [(2, iv 3), (1, iv (((0 + (k 0)) + (k 1)) + (k 2))), (0, .ref h)]) hx hb dX2_wholeStock_18 hl (k := 1) rfl (by decide) rfl (fun ls hl => ?_)
  refine lv_goto (tgt := 4) hx hb dX2_wholeStock_21 (by decide) ?_
  refine lv_iload_n hx hb dX2_wholeStock_4 rfl (lv_at hl 0 rfl) ?_
  refine lv_iconst (v := zI 3) hx hb dX2_wholeStock_5 rfl ?_
  refine i_icmp_ge (tgt := 24) hx hb ⟨by decide, by decide⟩ ⟨by decide, by decide⟩ dX2_wholeStock_6 (by decide) (fun c_4 => ?_) (fun c_4 => absurd (by decide) c_4)
  refine lv_iload_n hx hb dX2_wholeStock_24 rfl (lv_at hl 1 rfl) ?_
  subst hQ
  exact r_P hx hb hr hlocks (by rfl) dX2_wholeStock_25 (by congr 1; unfold whl; omega)

abbrev rm_X2_sizesInStock : Room := { frames := 0, cells := 0, slots := 0, locals := 0 }
set_option maxHeartbeats 4000000 in
set_option maxRecDepth 100000 in
/-- how many sizes are in stock -/
theorem mt_X2_sizesInStock (l : Launch) (D : va_G) (cI cS cJ : ClassId) (h : Nat) (hd : Nat) (hp : Nat) (d : Int → Int) (k : Int → Int) (st : Int) (md : Int) (ps : Int) (hk : Nn3 k) (hw : whl k ≤ 60) : cP l yX2_sizesInStock wsX2_sizesInStock rm_X2_sizesInStock [.ref h] D (tyL cI cS cJ) [(h, ob 2 [.ref hd, .ref hp, iv st, iv md, iv ps]), (hd, ar cI 5 d), (hp, ar cI 3 k)] (zI (szs k)) := by
  refine en_P (cc := cX2_sizesInStock) (maxL := 3) (ret := (some .int)) (by decide) rfl (Nat.le_of_ble_eq_true rfl) ?_
  intro p e s m args below meth c ls hX hE hP hK hl Q hQ
  obtain ⟨hx, hb, hr, hml, hts, hown, hlocks, hnm⟩ := hX
  have hown : s.vm.findClass RX2 = some m.cls := hown
  have hl : lv_has ls 3 [(0, .ref h)] := hl
  have inX2 : ∀ w ∈ u_ws RX2 TX2 5, w ∈ wsX2_sizesInStock := by decide +kernel
  have w0 : (Cond.fieldLink RX2 15 RX2 "pieces" "[I").before args s = true := hts _ (by decide +kernel)
  obtain ⟨hk0, hk1, hk2⟩ := id hk
  have hw3 : k 0 + k 1 + k 2 ≤ 60 := hw
  refine lv_iconst (v := zI 0) hx hb dX2_sizesInStock_0 rfl ?_
  refine lv_istore_n (lv' := [(1, iv 0), (0, .ref h)]) hx hb dX2_sizesInStock_1 rfl hl (by decide) rfl (fun ls hl => ?_)
  refine lv_iconst (v := zI 0) hx hb dX2_sizesInStock_2 rfl ?_
  refine lv_istore_n (lv' := [(2, iv 0), (1, iv 0), (0, .ref h)]) hx hb dX2_sizesInStock_3 rfl hl (by decide) rfl (fun ls hl => ?_)
  refine lv_iload_n hx hb dX2_sizesInStock_4 rfl (lv_at hl 0 rfl) ?_
  refine lv_iconst (v := zI 3) hx hb dX2_sizesInStock_5 rfl ?_
  refine i_icmp_ge (tgt := 27) hx hb ⟨by decide, by decide⟩ ⟨by decide, by decide⟩ dX2_sizesInStock_6 (by decide) (fun c_1 => absurd c_1 (by decide)) (fun c_1 => ?_)
  refine lv_aload_n hx hb dX2_sizesInStock_9 rfl (lv_at hl 2 rfl) ?_
  refine va_get (D := D) (ci := 2) (v := .ref hp) (C := RX2) (T := TX2) (N := 5) hx hb hts inX2 hown hK hP 0 rfl rfl 1 (by decide) w0 (fun _ h9 => h9) rfl dX2_sizesInStock_10 ?_
  refine lv_iload_n hx hb dX2_sizesInStock_13 rfl (lv_at hl 0 rfl) ?_
  refine i_iald hx hb hK hP 2 0 rfl rfl (by decide) (by decide) (by decide) dX2_sizesInStock_14 ?_
  have J_21 : ∀ (z_2 : Int) (hz_3 : z_2 = 0 + (if 0 < k 0 then 1 else 0)) (ls : Array Slot) (hl : lv_has ls 3 [(1, iv z_2), (2, iv 0), (0, .ref h)]), W p l e rm_X2_sizesInStock s m args below meth c s.heap [] 0 0 Q (F0 m 21 ls []) := by
    intro z_2 hz_3 ls hl
    refine i_iinc (n := 1) (lv' := [(2, iv 1), (1, iv z_2), (0, .ref h)]) hx hb dX2_sizesInStock_21 hl (k := 1) rfl (by decide) rfl (fun ls hl => ?_)
    refine lv_goto (tgt := 4) hx hb dX2_sizesInStock_24 (by decide) ?_
    refine lv_iload_n hx hb dX2_sizesInStock_4 rfl (lv_at hl 0 rfl) ?_
    refine lv_iconst (v := zI 3) hx hb dX2_sizesInStock_5 rfl ?_
    refine i_icmp_ge (tgt := 27) hx hb ⟨by decide, by decide⟩ ⟨by decide, by decide⟩ dX2_sizesInStock_6 (by decide) (fun c_4 => absurd c_4 (by decide)) (fun c_4 => ?_)
    refine lv_aload_n hx hb dX2_sizesInStock_9 rfl (lv_at hl 2 rfl) ?_
    refine va_get (D := D) (ci := 2) (v := .ref hp) (C := RX2) (T := TX2) (N := 5) hx hb hts inX2 hown hK hP 0 rfl rfl 1 (by decide) w0 (fun _ h9 => h9) rfl dX2_sizesInStock_10 ?_
    refine lv_iload_n hx hb dX2_sizesInStock_13 rfl (lv_at hl 0 rfl) ?_
    refine i_iald hx hb hK hP 2 0 rfl rfl (by decide) (by decide) (by decide) dX2_sizesInStock_14 ?_
    have J_21 : ∀ (z_5 : Int) (hz_6 : z_5 = z_2 + (if 0 < k 1 then 1 else 0)) (ls : Array Slot) (hl : lv_has ls 3 [(1, iv z_5), (2, iv 1), (0, .ref h)]), W p l e rm_X2_sizesInStock s m args below meth c s.heap [] 0 0 Q (F0 m 21 ls []) := by
      intro z_5 hz_6 ls hl
      refine i_iinc (n := 1) (lv' := [(2, iv 2), (1, iv z_5), (0, .ref h)]) hx hb dX2_sizesInStock_21 hl (k := 1) rfl (by decide) rfl (fun ls hl => ?_)
      refine lv_goto (tgt := 4) hx hb dX2_sizesInStock_24 (by decide) ?_
      refine lv_iload_n hx hb dX2_sizesInStock_4 rfl (lv_at hl 0 rfl) ?_
      refine lv_iconst (v := zI 3) hx hb dX2_sizesInStock_5 rfl ?_
      refine i_icmp_ge (tgt := 27) hx hb ⟨by decide, by decide⟩ ⟨by decide, by decide⟩ dX2_sizesInStock_6 (by decide) (fun c_7 => absurd c_7 (by decide)) (fun c_7 => ?_)
      refine lv_aload_n hx hb dX2_sizesInStock_9 rfl (lv_at hl 2 rfl) ?_
      refine va_get (D := D) (ci := 2) (v := .ref hp) (C := RX2) (T := TX2) (N := 5) hx hb hts inX2 hown hK hP 0 rfl rfl 1 (by decide) w0 (fun _ h9 => h9) rfl dX2_sizesInStock_10 ?_
      refine lv_iload_n hx hb dX2_sizesInStock_13 rfl (lv_at hl 0 rfl) ?_
      refine i_iald hx hb hK hP 2 0 rfl rfl (by decide) (by decide) (by decide) dX2_sizesInStock_14 ?_
      have J_21 : ∀ (z_8 : Int) (hz_9 : z_8 = z_5 + (if 0 < k 2 then 1 else 0)) (ls : Array Slot) (hl : lv_has ls 3 [(1, iv z_8), (2, iv 2), (0, .ref h)]), W p l e rm_X2_sizesInStock s m args below meth c s.heap [] 0 0 Q (F0 m 21 ls []) := by
        intro z_8 hz_9 ls hl
        refine i_iinc (n := 1) (lv' := [(2, iv 3), (1, iv z_8), (0, .ref h)]) hx hb dX2_sizesInStock_21 hl (k := 1) rfl (by decide) rfl (fun ls hl => ?_)
        refine lv_goto (tgt := 4) hx hb dX2_sizesInStock_24 (by decide) ?_
        refine lv_iload_n hx hb dX2_sizesInStock_4 rfl (lv_at hl 0 rfl) ?_
        refine lv_iconst (v := zI 3) hx hb dX2_sizesInStock_5 rfl ?_
        refine i_icmp_ge (tgt := 27) hx hb ⟨by decide, by decide⟩ ⟨by decide, by decide⟩ dX2_sizesInStock_6 (by decide) (fun c_10 => ?_) (fun c_10 => absurd (by decide) c_10)
        refine lv_iload_n hx hb dX2_sizesInStock_27 rfl (lv_at hl 1 rfl) ?_
        subst hQ
        exact r_P hx hb hr hlocks (by rfl) dX2_sizesInStock_28 (by congr 1; unfold szs; omega)
      refine i_if_le (tgt := 21) hx hb ⟨by omega, by omega⟩ dX2_sizesInStock_15 (by decide) (fun c_11 => ?_) (fun c_11 => ?_)
      · skip
        exact J_21 z_5 (by omega) ls (lv_sub hl [1, 0, 2] rfl)
      · skip
        refine i_iinc (n := 1) (lv' := [(1, iv (z_5 + 1)), (2, iv 2), (0, .ref h)]) hx hb dX2_sizesInStock_18 hl (k := 1) rfl (by decide) rfl (fun ls hl => ?_)
        exact J_21 (z_5 + 1) (by omega) ls (lv_sub hl [0, 1, 2] rfl)
    refine i_if_le (tgt := 21) hx hb ⟨by omega, by omega⟩ dX2_sizesInStock_15 (by decide) (fun c_12 => ?_) (fun c_12 => ?_)
    · skip
      exact J_21 z_2 (by omega) ls (lv_sub hl [1, 0, 2] rfl)
    · skip
      refine i_iinc (n := 1) (lv' := [(1, iv (z_2 + 1)), (2, iv 1), (0, .ref h)]) hx hb dX2_sizesInStock_18 hl (k := 1) rfl (by decide) rfl (fun ls hl => ?_)
      exact J_21 (z_2 + 1) (by omega) ls (lv_sub hl [0, 1, 2] rfl)
  refine i_if_le (tgt := 21) hx hb ⟨by omega, by omega⟩ dX2_sizesInStock_15 (by decide) (fun c_13 => ?_) (fun c_13 => ?_)
  · skip
    exact J_21 0 (by omega) ls (lv_sub hl [1, 0, 2] rfl)
  · skip
    refine i_iinc (n := 1) (lv' := [(1, iv 1), (2, iv 0), (0, .ref h)]) hx hb dX2_sizesInStock_18 hl (k := 1) rfl (by decide) rfl (fun ls hl => ?_)
    exact J_21 1 (by omega) ls (lv_sub hl [0, 1, 2] rfl)

abbrev rm_X2_fullestSize : Room := { frames := 0, cells := 0, slots := 0, locals := 0 }
set_option maxHeartbeats 4000000 in
set_option maxRecDepth 100000 in
/-- the fullest size -/
theorem mt_X2_fullestSize (l : Launch) (D : va_G) (cI cS cJ : ClassId) (h : Nat) (hd : Nat) (hp : Nat) (d : Int → Int) (k : Int → Int) (st : Int) (md : Int) (ps : Int) (hk : Nn3 k) (hw : whl k ≤ 60) : cP l yX2_fullestSize wsX2_fullestSize rm_X2_fullestSize [.ref h] D (tyL cI cS cJ) [(h, ob 2 [.ref hd, .ref hp, iv st, iv md, iv ps]), (hd, ar cI 5 d), (hp, ar cI 3 k)] (zI (fst k)) := by
  refine en_P (cc := cX2_fullestSize) (maxL := 3) (ret := (some .int)) (by decide) rfl (Nat.le_of_ble_eq_true rfl) ?_
  intro p e s m args below meth c ls hX hE hP hK hl Q hQ
  obtain ⟨hx, hb, hr, hml, hts, hown, hlocks, hnm⟩ := hX
  have hown : s.vm.findClass RX2 = some m.cls := hown
  have hl : lv_has ls 3 [(0, .ref h)] := hl
  have inX2 : ∀ w ∈ u_ws RX2 TX2 5, w ∈ wsX2_fullestSize := by decide +kernel
  have w0 : (Cond.fieldLink RX2 15 RX2 "pieces" "[I").before args s = true := hts _ (by decide +kernel)
  obtain ⟨hk0, hk1, hk2⟩ := id hk
  have hw3 : k 0 + k 1 + k 2 ≤ 60 := hw
  refine lv_iconst (v := zI 0) hx hb dX2_fullestSize_0 rfl ?_
  refine lv_istore_n (lv' := [(1, iv 0), (0, .ref h)]) hx hb dX2_fullestSize_1 rfl hl (by decide) rfl (fun ls hl => ?_)
  refine lv_iconst (v := zI 1) hx hb dX2_fullestSize_2 rfl ?_
  refine lv_istore_n (lv' := [(2, iv 1), (1, iv 0), (0, .ref h)]) hx hb dX2_fullestSize_3 rfl hl (by decide) rfl (fun ls hl => ?_)
  refine lv_iload_n hx hb dX2_fullestSize_4 rfl (lv_at hl 0 rfl) ?_
  refine lv_iconst (v := zI 3) hx hb dX2_fullestSize_5 rfl ?_
  refine i_icmp_ge (tgt := 32) hx hb ⟨by decide, by decide⟩ ⟨by decide, by decide⟩ dX2_fullestSize_6 (by decide) (fun c_1 => absurd c_1 (by decide)) (fun c_1 => ?_)
  refine lv_aload_n hx hb dX2_fullestSize_9 rfl (lv_at hl 2 rfl) ?_
  refine va_get (D := D) (ci := 2) (v := .ref hp) (C := RX2) (T := TX2) (N := 5) hx hb hts inX2 hown hK hP 0 rfl rfl 1 (by decide) w0 (fun _ h9 => h9) rfl dX2_fullestSize_10 ?_
  refine lv_iload_n hx hb dX2_fullestSize_13 rfl (lv_at hl 0 rfl) ?_
  refine i_iald hx hb hK hP 2 0 rfl rfl (by decide) (by decide) (by decide) dX2_fullestSize_14 ?_
  refine lv_aload_n hx hb dX2_fullestSize_15 rfl (lv_at hl 2 rfl) ?_
  refine va_get (D := D) (ci := 2) (v := .ref hp) (C := RX2) (T := TX2) (N := 5) hx hb hts inX2 hown hK hP 0 rfl rfl 1 (by decide) w0 (fun _ h9 => h9) rfl dX2_fullestSize_16 ?_
  refine lv_iload_n hx hb dX2_fullestSize_19 rfl (lv_at hl 1 rfl) ?_
  refine i_iald hx hb hK hP 2 0 rfl rfl (by decide) (by decide) (by decide) dX2_fullestSize_20 ?_
  have J_26 : ∀ (z_2 : Int) (hz_3 : z_2 = if k 0 < k 1 then 1 else 0) (ls : Array Slot) (hl : lv_has ls 3 [(1, iv z_2), (2, iv 1), (0, .ref h)]), W p l e rm_X2_fullestSize s m args below meth c s.heap [] 0 0 Q (F0 m 26 ls []) := by
    intro z_2 hz_3 ls hl
    have hz_3b : 0 ≤ z_2 ∧ z_2 < 3 ∧ 0 ≤ k z_2 ∧ k z_2 ≤ 60 := by rw [hz_3]; split <;> (try simp only [Int.reduceNeg]) <;> omega
    refine i_iinc (n := 1) (lv' := [(2, iv 2), (1, iv z_2), (0, .ref h)]) hx hb dX2_fullestSize_26 hl (k := 1) rfl (by decide) rfl (fun ls hl => ?_)
    refine lv_goto (tgt := 4) hx hb dX2_fullestSize_29 (by decide) ?_
    refine lv_iload_n hx hb dX2_fullestSize_4 rfl (lv_at hl 0 rfl) ?_
    refine lv_iconst (v := zI 3) hx hb dX2_fullestSize_5 rfl ?_
    refine i_icmp_ge (tgt := 32) hx hb ⟨by decide, by decide⟩ ⟨by decide, by decide⟩ dX2_fullestSize_6 (by decide) (fun c_4 => absurd c_4 (by decide)) (fun c_4 => ?_)
    refine lv_aload_n hx hb dX2_fullestSize_9 rfl (lv_at hl 2 rfl) ?_
    refine va_get (D := D) (ci := 2) (v := .ref hp) (C := RX2) (T := TX2) (N := 5) hx hb hts inX2 hown hK hP 0 rfl rfl 1 (by decide) w0 (fun _ h9 => h9) rfl dX2_fullestSize_10 ?_
    refine lv_iload_n hx hb dX2_fullestSize_13 rfl (lv_at hl 0 rfl) ?_
    refine i_iald hx hb hK hP 2 0 rfl rfl (by decide) (by decide) (by decide) dX2_fullestSize_14 ?_
    refine lv_aload_n hx hb dX2_fullestSize_15 rfl (lv_at hl 2 rfl) ?_
    refine va_get (D := D) (ci := 2) (v := .ref hp) (C := RX2) (T := TX2) (N := 5) hx hb hts inX2 hown hK hP 0 rfl rfl 1 (by decide) w0 (fun _ h9 => h9) rfl dX2_fullestSize_16 ?_
    refine lv_iload_n hx hb dX2_fullestSize_19 rfl (lv_at hl 1 rfl) ?_
    refine i_iald hx hb hK hP 2 0 rfl rfl (by omega) (by omega) (by decide) dX2_fullestSize_20 ?_
    have J_26 : ∀ (z_5 : Int) (hz_6 : z_5 = if k z_2 < k 2 then 2 else z_2) (ls : Array Slot) (hl : lv_has ls 3 [(1, iv z_5), (2, iv 2), (0, .ref h)]), W p l e rm_X2_fullestSize s m args below meth c s.heap [] 0 0 Q (F0 m 26 ls []) := by
      intro z_5 hz_6 ls hl
      have hz_6b : 0 ≤ z_5 ∧ z_5 < 3 ∧ 0 ≤ k z_5 ∧ k z_5 ≤ 60 := by rw [hz_6]; split <;> (try simp only [z_2]) <;> omega
      refine i_iinc (n := 1) (lv' := [(2, iv 3), (1, iv z_5), (0, .ref h)]) hx hb dX2_fullestSize_26 hl (k := 1) rfl (by decide) rfl (fun ls hl => ?_)
      refine lv_goto (tgt := 4) hx hb dX2_fullestSize_29 (by decide) ?_
      refine lv_iload_n hx hb dX2_fullestSize_4 rfl (lv_at hl 0 rfl) ?_
      refine lv_iconst (v := zI 3) hx hb dX2_fullestSize_5 rfl ?_
      refine i_icmp_ge (tgt := 32) hx hb ⟨by decide, by decide⟩ ⟨by decide, by decide⟩ dX2_fullestSize_6 (by decide) (fun c_7 => ?_) (fun c_7 => absurd (by decide) c_7)
      refine lv_iload_n hx hb dX2_fullestSize_32 rfl (lv_at hl 1 rfl) ?_
      subst hQ
      exact r_P hx hb hr hlocks (by rfl) dX2_fullestSize_33 (by subst_vars; rfl)
    refine i_icmp_le (tgt := 26) hx hb ⟨by omega, by omega⟩ ⟨by omega, by omega⟩ dX2_fullestSize_21 (by decide) (fun c_8 => ?_) (fun c_8 => ?_)
    · skip
      exact J_26 z_2 (by rw [if_neg (show ¬ k z_2 < k 2 by omega)]) ls (lv_sub hl [1, 0, 2] rfl)
    · skip
      refine lv_iload_n hx hb dX2_fullestSize_24 rfl (lv_at hl 0 rfl) ?_
      refine lv_istore_n (lv' := [(1, iv 2), (2, iv 2), (0, .ref h)]) hx hb dX2_fullestSize_25 rfl hl (by decide) rfl (fun ls hl => ?_)
      exact J_26 2 (by rw [if_pos (show k z_2 < k 2 by omega)]) ls (lv_sub hl [0, 1, 2] rfl)
  refine i_icmp_le (tgt := 26) hx hb ⟨by omega, by omega⟩ ⟨by omega, by omega⟩ dX2_fullestSize_21 (by decide) (fun c_9 => ?_) (fun c_9 => ?_)
  · skip
    exact J_26 0 (by rw [if_neg (show ¬ k 0 < k 1 by omega)]) ls (lv_sub hl [1, 0, 2] rfl)
  · skip
    refine lv_iload_n hx hb dX2_fullestSize_24 rfl (lv_at hl 0 rfl) ?_
    refine lv_istore_n (lv' := [(1, iv 1), (2, iv 1), (0, .ref h)]) hx hb dX2_fullestSize_25 rfl hl (by decide) rfl (fun ls hl => ?_)
    exact J_26 1 (by rw [if_pos (show k 0 < k 1 by omega)]) ls (lv_sub hl [0, 1, 2] rfl)

abbrev rm_X2_salesAt : Room := { frames := 1, cells := 0, slots := 0, locals := 22 }
set_option maxHeartbeats 4000000 in
set_option maxRecDepth 100000 in
/-- sales of a week at a step -/
theorem mt_X2_salesAt (l : Launch) (D : va_G) (cI cS cJ : ClassId) (h : Nat) (hd : Nat) (hp : Nat) (d : Int → Int) (k : Int → Int) (st : Int) (md : Int) (ps : Int) (j : Int) (hk : Nn3 k) (hw : whl k ≤ 60) (hj : 0 ≤ j ∧ j < 5) (hdj : 0 ≤ d (j) ∧ d (j) ≤ 30) : cP l yX2_salesAt wsX2_salesAt rm_X2_salesAt [.ref h, iv j] D (tyL cI cS cJ) [(h, ob 2 [.ref hd, .ref hp, iv st, iv md, iv ps]), (hd, ar cI 5 d), (hp, ar cI 3 k)] (zI (slv (d (j)) k)) := by
  refine en_P (cc := cX2_salesAt) (maxL := 2) (ret := (some .int)) (by decide) rfl (Nat.le_of_ble_eq_true rfl) ?_
  intro p e s m args below meth c ls hX hE hP hK hl Q hQ
  obtain ⟨hx, hb, hr, hml, hts, hown, hlocks, hnm⟩ := hX
  have hown : s.vm.findClass RX2 = some m.cls := hown
  have hl : lv_has ls 2 [(0, .ref h), (1, iv j)] := hl
  have inX2 : ∀ w ∈ u_ws RX2 TX2 5, w ∈ wsX2_salesAt := by decide +kernel
  have w0 : (Cond.fieldLink RX2 9 RX2 "demands" "[I").before args s = true := hts _ (by decide +kernel)
  have w1 : (Cond.methodLink RX2 41 Lib.Math.min.name).before args s = true := hts _ (by decide +kernel)
  have w2 : (Cond.static Lib.Math.min.name).before args s = true := hts _ (by decide +kernel)
  have w3 : (Cond.initialized "java/lang/Math").before args s = true := hts _ (by decide +kernel)
  have w4 : (Cond.code Lib.Math.min.name Lib.Math.min.code 2 (some .int)).before args s = true := hts _ (by decide +kernel)
  obtain ⟨hk0, hk1, hk2⟩ := id hk
  have hw3 : k 0 + k 1 + k 2 ≤ 60 := hw
  have hz3 := szs_in k
  have hm0 : 0 ≤ d j * szs k := Int.mul_nonneg hdj.1 hz3.1
  have hm1 : d j * szs k ≤ 30 * 3 := Int.mul_le_mul hdj.2 hz3.2 hz3.1 (by decide)
  have hm2 : 0 ≤ d j * szs k / 3 := Int.ediv_nonneg hm0 (by decide)
  have hw0 : 0 ≤ whl k := by unfold whl; omega
  refine lv_aload_n hx hb dX2_salesAt_0 rfl (lv_at hl 0 rfl) ?_
  refine va_get (D := D) (ci := 2) (v := .ref hd) (C := RX2) (T := TX2) (N := 5) hx hb hts inX2 hown hK hP 0 rfl rfl 0 (by decide) w0 (fun _ h9 => h9) rfl dX2_salesAt_1 ?_
  refine lv_iload_n hx hb dX2_salesAt_4 rfl (lv_at hl 1 rfl) ?_
  refine i_iald hx hb hK hP 1 0 rfl rfl (by omega) (by omega) (by decide) dX2_salesAt_5 ?_
  refine lv_aload_n hx hb dX2_salesAt_6 rfl (lv_at hl 0 rfl) ?_
  refine ms_P (va_runV (As := []) (rest := [iv (d j)]) ⟨hx, hb, hml, hown, hts⟩ (mt_X2_sizesInStock l D cI cS cJ h hd hp d k st md ps (by omega) (by omega)) (cwV 0 hts gX2_salesAt_X2_sizesInStock rfl rfl rfl (by decide +kernel) ⟨Nat.le_of_ble_eq_true rfl, Nat.le_of_ble_eq_true rfl⟩) (pc_V (ci := 2) (q0 := 0) hK (hP.sub (ws' := [(h, ob 2 [.ref hd, .ref hp, iv st, iv md, iv ps]), (hd, ar cI 5 d), (hp, ar cI 3 k)]) [0, 1, 2] rfl) rfl rfl (pcP_S hE hK (hP.sub (ws' := [(h, ob 2 [.ref hd, .ref hp, iv st, iv md, iv ps]), (hd, ar cI 5 d), (hp, ar cI 3 k)]) [0, 1, 2] rfl))) rfl rfl hl.1 rfl (lv_room (Nat.le_of_ble_eq_true rfl)) dX2_salesAt_7 ⟨Nat.le_of_ble_eq_true rfl, Nat.le_of_ble_eq_true rfl⟩) ?_
  refine i_imul hx hb dX2_salesAt_10 ?_
  refine lv_iconst (v := zI 3) hx hb dX2_salesAt_11 rfl ?_
  refine i_idiv hx hb (by omega) (by omega) (by decide) (by decide) dX2_salesAt_12 ?_
  refine lv_aload_n hx hb dX2_salesAt_13 rfl (lv_at hl 0 rfl) ?_
  refine ms_P (va_runV (As := []) (rest := [iv (((d j) * (szs k)) / 3)]) ⟨hx, hb, hml, hown, hts⟩ (mt_X2_wholeStock l D cI cS cJ h hd hp d k st md ps) (cwV 0 hts gX2_salesAt_X2_wholeStock rfl rfl rfl (by decide +kernel) ⟨Nat.le_of_ble_eq_true rfl, Nat.le_of_ble_eq_true rfl⟩) (pc_V (ci := 2) (q0 := 0) hK (hP.sub (ws' := [(h, ob 2 [.ref hd, .ref hp, iv st, iv md, iv ps]), (hd, ar cI 5 d), (hp, ar cI 3 k)]) [0, 1, 2] rfl) rfl rfl (pcP_S hE hK (hP.sub (ws' := [(h, ob 2 [.ref hd, .ref hp, iv st, iv md, iv ps]), (hd, ar cI 5 d), (hp, ar cI 3 k)]) [0, 1, 2] rfl))) rfl rfl hl.1 rfl (lv_room (Nat.le_of_ble_eq_true rfl)) dX2_salesAt_14 ⟨Nat.le_of_ble_eq_true rfl, Nat.le_of_ble_eq_true rfl⟩) ?_
  refine i_min hx hb (hml.trans hl.1.symm) hown w1 w2 w3 w4 ⟨Nat.le_of_ble_eq_true rfl, Nat.le_of_ble_eq_true rfl, Nat.le_of_ble_eq_true rfl, Nat.le_of_ble_eq_true rfl⟩ (Nat.le_of_ble_eq_true rfl) ⟨by omega, by omega⟩ ⟨by omega, by omega⟩ dX2_salesAt_17 ?_
  subst hQ
  exact r_P hx hb hr hlocks (by rfl) dX2_salesAt_20 (rfl)

abbrev rm_X2_sellForAWeek : Room := { frames := 2, cells := 0, slots := 0, locals := 43 }
set_option maxHeartbeats 4000000 in
set_option maxRecDepth 100000 in
/-- a week is run for a store -/
theorem mt_X2_sellForAWeek (l : Launch) (D : va_G) (cI cS cJ : ClassId) (h : Nat) (hd : Nat) (hp : Nat) (d : Int → Int) (k : Int → Int) (st : Int) (md : Int) (ps : Int) (hk : Nn3 k) (hw : whl k ≤ 60) (hst5 : 0 ≤ st ∧ st < 5) (hdst : 0 ≤ d (st) ∧ d (st) ≤ 30) : cM l yX2_sellForAWeek wsX2_sellForAWeek rm_X2_sellForAWeek [.ref h] D (tyL cI cS cJ) [(h, ob 2 [.ref hd, .ref hp, iv st, iv md, iv ps]), (hd, ar cI 5 d), (hp, ar cI 3 k)] (fun r_ w_ => r_ = some (iv (slv (d (st)) k)) ∧ w_ = [(h, ob 2 [.ref hd, .ref hp, iv st, iv md, iv (ps + slv (d (st)) k)]), (hd, ar cI 5 d), (hp, ar cI 3 (decn k (slv (d (st)) k).toNat))]) 0 0 := by
  refine en_M (cc := cX2_sellForAWeek) (maxL := 3) (ret := (some .int)) (by decide) rfl (Nat.le_of_ble_eq_true rfl) ?_
  intro p e s m args below meth c ls A hX hE hP hK hD hS hA hl Q hQ
  obtain ⟨hx, hb, hr, hml, hts, hown, hlocks, hnm⟩ := hX
  have hown : s.vm.findClass RX2 = some m.cls := hown
  have hl : lv_has ls 3 [(0, .ref h)] := hl
  have inX2 : ∀ w ∈ u_ws RX2 TX2 5, w ∈ wsX2_sellForAWeek := by decide +kernel
  have w0 : (Cond.fieldLink RX2 22 RX2 "step" "I").before args s = true := hts _ (by decide +kernel)
  have w1 : (Cond.fieldLink RX2 25 RX2 "piecesSold" "I").before args s = true := hts _ (by decide +kernel)
  have w2 : (Cond.fieldLink RX2 15 RX2 "pieces" "[I").before args s = true := hts _ (by decide +kernel)
  have hw60 := hw
  refine lv_aload_n hx hb dX2_sellForAWeek_0 rfl (lv_at hl 0 rfl) ?_
  refine lv_aload_n hx hb dX2_sellForAWeek_1 rfl (lv_at hl 0 rfl) ?_
  refine va_get (D := D) (ci := 2) (v := iv st) (C := RX2) (T := TX2) (N := 5) hx hb hts inX2 hown hK hP 0 rfl rfl 2 (by decide) w0 (fun _ h9 => h9) rfl dX2_sellForAWeek_2 ?_
  refine ms_P (va_runV (As := [iv st]) (rest := []) ⟨hx, hb, hml, hown, hts⟩ (mt_X2_salesAt l D cI cS cJ h hd hp d k st md ps st (hk) (hw) (hst5) (hdst)) (cwV 1 hts gX2_sellForAWeek_X2_salesAt rfl rfl rfl (by decide +kernel) ⟨Nat.le_of_ble_eq_true rfl, Nat.le_of_ble_eq_true rfl⟩) (pc_V (ci := 2) (q0 := 0) hK (hP.sub (ws' := [(h, ob 2 [.ref hd, .ref hp, iv st, iv md, iv ps]), (hd, ar cI 5 d), (hp, ar cI 3 k)]) [0, 1, 2] rfl) rfl rfl (pcP_S hE hK (hP.sub (ws' := [(h, ob 2 [.ref hd, .ref hp, iv st, iv md, iv ps]), (hd, ar cI 5 d), (hp, ar cI 3 k)]) [0, 1, 2] rfl))) rfl rfl hl.1 rfl (lv_room (Nat.le_of_ble_eq_true rfl)) dX2_sellForAWeek_5 ⟨Nat.le_of_ble_eq_true rfl, Nat.le_of_ble_eq_true rfl⟩) ?_
  refine i_name (fun sl hsl => ?_)
  have hsb : 0 ≤ sl ∧ sl ≤ whl k := by rw [hsl]; exact slv_in hdst.1 hk
  refine lv_istore_n (lv' := [(1, iv sl), (0, .ref h)]) hx hb dX2_sellForAWeek_8 rfl hl (by decide) rfl (fun ls hl => ?_)
  refine lv_iconst (v := zI 0) hx hb dX2_sellForAWeek_9 rfl ?_
  refine lv_istore_n (lv' := [(2, iv 0), (1, iv sl), (0, .ref h)]) hx hb dX2_sellForAWeek_10 rfl hl (by decide) rfl (fun ls hl => ?_)
  have J_11 : ∀ (n_11 : Nat) (n : Nat) (hn : (n : Int) ≤ sl) (hm_11 : ((sl - n).toNat) < n_11) (H : Heap) (locs : List Loc) (hP : va_P D vwCl [(h, ob 2 [.ref hd, .ref hp, iv st, iv md, iv ps]), (hd, ar cI 5 d), (hp, ar cI 3 (decn k n))] H) (hD : va_D A [(h, ob 2 [.ref hd, .ref hp, iv st, iv md, iv ps]), (hd, ar cI 5 d), (hp, ar cI 3 (decn k n))]) (hS : va_S A s.heap H locs) (ls : Array Slot) (hl : lv_has ls 3 [(0, .ref h), (1, iv sl), (2, iv (n : Int))]), W p l e rm_X2_sellForAWeek s m args below meth c H locs 0 0 Q (F0 m 11 ls []) := by
    intro n_11
    induction n_11 with
    | zero => intro n hn hm_11 H locs hP hD hS ls hl; exact absurd hm_11 (Nat.not_lt_zero _)
    | succ n_11 ih_11 =>
      intro n hn hm_11 H locs hP hD hS ls hl
      refine lv_iload_n hx hb dX2_sellForAWeek_11 rfl (lv_at hl 2 rfl) ?_
      refine lv_iload_n hx hb dX2_sellForAWeek_12 rfl (lv_at hl 1 rfl) ?_
      refine i_icmp_ge (tgt := 35) hx hb ⟨by omega, by omega⟩ ⟨by omega, by omega⟩ dX2_sellForAWeek_13 (by decide) (fun c_1 => ?_) (fun c_1 => ?_)
      · skip
        have hen : n = sl.toNat := by omega
        refine lv_aload_n hx hb dX2_sellForAWeek_35 rfl (lv_at hl 0 rfl) ?_
        refine lv_dup hx hb dX2_sellForAWeek_36 rfl ?_
        refine va_get (D := D) (ci := 2) (v := iv ps) (C := RX2) (T := TX2) (N := 5) hx hb hts inX2 hown hK hP 0 rfl rfl 4 (by decide) w1 (fun _ h9 => h9) rfl dX2_sellForAWeek_37 ?_
        refine lv_iload_n hx hb dX2_sellForAWeek_40 rfl (lv_at hl 1 rfl) ?_
        refine i_iadd hx hb dX2_sellForAWeek_41 ?_
        refine va_put (D := D) (ci := 2) (v := iv (ps + sl)) (ty := .int) (C := RX2) (T := TX2) (N := 5) hx hb hts inX2 tyX2 tyX2_ok nmX2 hown hK hP hD hS 0 rfl rfl 4 (by decide) w1 (fun _ h9 => h9) rfl (by decide +kernel) rfl rfl (Nat.le_of_ble_eq_true rfl) dX2_sellForAWeek_42 (fun H locs hP hD hS => ?_)
        have hP : va_P D vwCl [(h, ob 2 [.ref hd, .ref hp, iv st, iv md, iv (ps + sl)]), (hd, ar cI 5 d), (hp, ar cI 3 (decn k n))] H := hP
        have hD : va_D A [(h, ob 2 [.ref hd, .ref hp, iv st, iv md, iv (ps + sl)]), (hd, ar cI 5 d), (hp, ar cI 3 (decn k n))] := hD
        refine lv_iload_n hx hb dX2_sellForAWeek_45 rfl (lv_at hl 1 rfl) ?_
        have hW9 : WE D vwCl [(h, ob 2 [.ref hd, .ref hp, iv st, iv md, iv (ps + sl)]), (hd, ar cI 5 d), (hp, ar cI 3 (decn k n))] [(h, ob 2 [.ref hd, .ref hp, iv st, iv md, iv (ps + slv (d (st)) k)]), (hd, ar cI 5 d), (hp, ar cI 3 (decn k (slv (d (st)) k).toNat))] := ⟨ce_of (by rw [hsl]), ⟨ce_rf, ⟨ce_of (by rw [← hsl, hen]), trivial⟩⟩⟩
        refine i_eqz (y := slv (d (st)) k) (by rw [hsl]) ?_
        subst hQ
        exact r_Mi hx hb hr hlocks (by first | rfl | decide) dX2_sellForAWeek_46 hS (hW9.P (hP.sub (ws' := [(h, ob 2 [.ref hd, .ref hp, iv st, iv md, iv (ps + sl)]), (hd, ar cI 5 d), (hp, ar cI 3 (decn k n))]) [0, 1, 2] rfl)) (hW9.D (hD.sub (ws' := [(h, ob 2 [.ref hd, .ref hp, iv st, iv md, iv (ps + sl)]), (hd, ar cI 5 d), (hp, ar cI 3 (decn k n))]) [0, 1, 2] (by decide) rfl)) (⟨rfl, rfl⟩) (Nat.le_of_ble_eq_true rfl) (Nat.le_of_ble_eq_true rfl)
      · skip
        have hwn := whl_decn k n
        have hkn : Nn3 (decn k n) := decn_nn hk n (by omega)
        have hwb : whl (decn k n) ≤ 60 := by omega
        obtain ⟨hf0, hf2⟩ := fst_in (decn k n)
        refine lv_aload_n hx hb dX2_sellForAWeek_16 rfl (lv_at hl 0 rfl) ?_
        refine va_get (D := D) (ci := 2) (v := .ref hp) (C := RX2) (T := TX2) (N := 5) hx hb hts inX2 hown hK hP 0 rfl rfl 1 (by decide) w2 (fun _ h9 => h9) rfl dX2_sellForAWeek_17 ?_
        refine lv_aload_n hx hb dX2_sellForAWeek_20 rfl (lv_at hl 0 rfl) ?_
        refine ms_P (va_runV (As := []) (rest := [.ref hp]) ⟨hx, hb, hml, hown, hts⟩ (mt_X2_fullestSize l D cI cS cJ h hd hp d (decn k n) st md ps (hkn) (hwb)) (cwV 0 hts gX2_sellForAWeek_X2_fullestSize rfl rfl rfl (by decide +kernel) ⟨Nat.le_of_ble_eq_true rfl, Nat.le_of_ble_eq_true rfl⟩) (pc_V (ci := 2) (q0 := 0) hK (hP.sub (ws' := [(h, ob 2 [.ref hd, .ref hp, iv st, iv md, iv ps]), (hd, ar cI 5 d), (hp, ar cI 3 (decn k n))]) [0, 1, 2] rfl) rfl rfl (pcP_S hE hK (hP.sub (ws' := [(h, ob 2 [.ref hd, .ref hp, iv st, iv md, iv ps]), (hd, ar cI 5 d), (hp, ar cI 3 (decn k n))]) [0, 1, 2] rfl))) rfl rfl hl.1 rfl (lv_room (Nat.le_of_ble_eq_true rfl)) dX2_sellForAWeek_21 ⟨Nat.le_of_ble_eq_true rfl, Nat.le_of_ble_eq_true rfl⟩) ?_
        refine lv_dup2_11 hx hb dX2_sellForAWeek_24 rfl rfl ?_
        refine i_iald hx hb hK hP 2 0 rfl rfl (by omega) (by omega) (by decide) dX2_sellForAWeek_25 ?_
        refine lv_iconst (v := zI 1) hx hb dX2_sellForAWeek_26 rfl ?_
        refine i_isub hx hb dX2_sellForAWeek_27 ?_
        refine i_iast hx hb hK hP hD hS 2 0 rfl rfl (by omega) (by omega) (by decide) dX2_sellForAWeek_28 (fun H locs hP hD hS => ?_)
        have hP : va_P D vwCl [(h, ob 2 [.ref hd, .ref hp, iv st, iv md, iv ps]), (hd, ar cI 5 d), (hp, ar cI 3 (ui (decn k n) (fst (decn k n)) ((decn k n (fst (decn k n))) - 1)))] H := hP
        have hD : va_D A [(h, ob 2 [.ref hd, .ref hp, iv st, iv md, iv ps]), (hd, ar cI 5 d), (hp, ar cI 3 (ui (decn k n) (fst (decn k n)) ((decn k n (fst (decn k n))) - 1)))] := hD
        refine i_iinc (n := 1) (lv' := [(2, iv ((n : Int) + 1)), (0, .ref h), (1, iv sl)]) hx hb dX2_sellForAWeek_29 hl (k := 2) rfl (by decide) rfl (fun ls hl => ?_)
        refine lv_goto (tgt := 11) hx hb dX2_sellForAWeek_32 (by decide) ?_
        exact ih_11 (n + 1) (by omega) (by omega) _ _ (hP.sub [0, 1, 2] rfl) (hD.sub [0, 1, 2] (by decide) rfl) hS ls (lv_sub hl [1, 2, 0] rfl)
  exact J_11 _ 0 (by omega) (Nat.lt_succ_self _) _ _ (hP.sub [0, 1, 2] rfl) (hD.sub [0, 1, 2] (by decide) rfl) hS ls (lv_sub hl [2, 1, 0] rfl)
