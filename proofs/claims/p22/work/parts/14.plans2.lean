abbrev rm_X0_lookAt : Room := { frames := 2, cells := 0, slots := 0, locals := 43 }
set_option maxHeartbeats 4000000 in
set_option maxRecDepth 100000 in
/-- what a plan looks at -/
theorem mt_X0_lookAt (l : Launch) (D : va_G) (cI cS cJ : ClassId) (oa : Nat) (op : Nat) (od : Nat) (ow : Nat) (ol : Nat) (pr0 : Int → Int) (sd0 : Int → Int) (wo : Int → Int) (la : Int → Int) (fw : Int) (fr : Int) (ew : Int) (gp0 : Int) (rm0 : Int) (os : Int) (ok : Int) (ml : Int) (sa : Nat) (sp : Nat) (pr : Int → Int) (wks : Int) (wk : Int) (gp : Int) (rm : Int) (mv : Int) (tk : Int) (h : Nat) (hd : Nat) (hp : Nat) (d : Int → Int) (k : Int → Int) (st : Int) (md : Int) (ps : Int) (hm : -1 ≤ md ∧ md ≤ 100) (hg : 0 ≤ gp ∧ gp ≤ 100) (hwk : 0 ≤ wk ∧ wk ≤ 100) (hwks : 0 ≤ wks ∧ wks ≤ 100) : cM l yX0_lookAt wsX0_lookAt rm_X0_lookAt [.ref oa, .ref sa, .ref h] D (tyL cI cS cJ) [(oa, ob 0 [.ref op, .ref od, .ref ow, .ref ol, iv fw, iv fr, iv ew, iv gp0, iv rm0, iv os, iv ok, iv ml]), (op, ar cI 5 pr0), (od, ar cI 5 sd0), (ow, ar cI 3050 wo), (ol, ar cI 6 la), (sa, ob 1 [.ref sp, iv wks, iv wk, iv gp, iv rm, iv mv, iv tk]), (sp, ar cI 5 pr), (h, ob 2 [.ref hd, .ref hp, iv st, iv md, iv ps]), (hd, ar cI 5 d), (hp, ar cI 3 k)] (fun r_ w_ => r_ = none ∧ w_ = [(oa, ob 0 [.ref op, .ref od, .ref ow, .ref ol, iv wk, iv (min wks (wk + wtv md gp wk)), iv wks, iv gp, iv rm, iv st, iv (whl k), iv ml]), (op, ar cI 5 pr), (od, ar cI 5 d), (ow, ar cI 3050 wo), (ol, ar cI 6 la), (sa, ob 1 [.ref sp, iv wks, iv wk, iv gp, iv rm, iv mv, iv tk]), (sp, ar cI 5 pr), (h, ob 2 [.ref hd, .ref hp, iv st, iv md, iv ps]), (hd, ar cI 5 d), (hp, ar cI 3 k)]) 0 0 := by
  refine en_M (cc := cX0_lookAt) (maxL := 3) (ret := none) (by decide) rfl (Nat.le_of_ble_eq_true rfl) ?_
  intro p e s m args below meth c ls A hX hE hP hK hD hS hA hl Q hQ
  obtain ⟨hx, hb, hr, hml, hts, hown, hlocks, hnm⟩ := hX
  have hown : s.vm.findClass RX0 = some m.cls := hown
  have hl : lv_has ls 3 [(0, .ref oa), (1, .ref sa), (2, .ref h)] := hl
  have inX0 : ∀ w ∈ u_ws RX0 TX0 12, w ∈ wsX0_lookAt := by decide +kernel
  have inX1 : ∀ w ∈ u_ws RX1 TX1 7, w ∈ wsX0_lookAt := by decide +kernel
  have inX2 : ∀ w ∈ u_ws RX2 TX2 5, w ∈ wsX0_lookAt := by decide +kernel
  have w0 : (Cond.fieldLink RX0 9 RX0 "prices" "[I").before args s = true := hts _ (by decide +kernel)
  have w1 : (Cond.methodLink RX0 27 arraycopyName).before args s = true := hts _ (by decide +kernel)
  have w2 : (Cond.native arraycopyName).before args s = true := hts _ (by decide +kernel)
  have w3 : (Cond.static arraycopyName).before args s = true := hts _ (by decide +kernel)
  have w4 : (Cond.initialized "java/lang/System").before args s = true := hts _ (by decide +kernel)
  have w5 : (Cond.fieldLink RX0 15 RX0 "demands" "[I").before args s = true := hts _ (by decide +kernel)
  have w6 : (Cond.fieldLink RX0 40 RX0 "firstWeek" "I").before args s = true := hts _ (by decide +kernel)
  have w7 : (Cond.fieldLink RX0 46 RX0 "endWeek" "I").before args s = true := hts _ (by decide +kernel)
  have w8 : (Cond.fieldLink RX0 52 RX0 "gap" "I").before args s = true := hts _ (by decide +kernel)
  have w9 : (Cond.fieldLink RX0 56 RX0 "remnant" "I").before args s = true := hts _ (by decide +kernel)
  have w10 : (Cond.initialized RX2).before args s = true := hts _ (by decide +kernel)
  have w11 : (Cond.instanceMethod yX2_waitFrom).before args s = true := hts _ (by decide +kernel)
  have w12 : (Cond.selects RX2 yX2_waitFrom yX2_waitFrom).before args s = true := hts _ (by decide +kernel)
  have w13 : (Cond.methodLink RX0 61 Lib.Math.min.name).before args s = true := hts _ (by decide +kernel)
  have w14 : (Cond.static Lib.Math.min.name).before args s = true := hts _ (by decide +kernel)
  have w15 : (Cond.initialized "java/lang/Math").before args s = true := hts _ (by decide +kernel)
  have w16 : (Cond.code Lib.Math.min.name Lib.Math.min.code 2 (some .int)).before args s = true := hts _ (by decide +kernel)
  have w17 : (Cond.fieldLink RX0 66 RX0 "freeWeek" "I").before args s = true := hts _ (by decide +kernel)
  have w18 : (Cond.fieldLink RX0 72 RX0 "ownStep" "I").before args s = true := hts _ (by decide +kernel)
  have w19 : (Cond.instanceMethod yX2_wholeStock).before args s = true := hts _ (by decide +kernel)
  have w20 : (Cond.selects RX2 yX2_wholeStock yX2_wholeStock).before args s = true := hts _ (by decide +kernel)
  have w21 : (Cond.fieldLink RX0 79 RX0 "ownStock" "I").before args s = true := hts _ (by decide +kernel)
  refine lv_aload_n hx hb dX0_lookAt_0 rfl (lv_at hl 1 rfl) ?_
  refine va_getN (D := D) (ci := 1) (v := .ref sp) (C := RX1) (T := TX1) (N := 7) hx hb hts inX1 hown hK hP 5 rfl rfl 0 (by decide) (hE.at 0 rfl) (fun _ h9 => h9) rfl dX0_lookAt_1 ?_
  refine lv_iconst (v := zI 0) hx hb dX0_lookAt_4 rfl ?_
  refine lv_aload_n hx hb dX0_lookAt_5 rfl (lv_at hl 0 rfl) ?_
  refine va_get (D := D) (ci := 0) (v := .ref op) (C := RX0) (T := TX0) (N := 12) hx hb hts inX0 hown hK hP 0 rfl rfl 0 (by decide) w0 (fun _ h9 => h9) rfl dX0_lookAt_6 ?_
  refine lv_iconst (v := zI 0) hx hb dX0_lookAt_9 rfl ?_
  refine lv_iconst (v := zI 5) hx hb dX0_lookAt_10 rfl ?_
  refine i_copy (N := 5) hx hb (hml.trans hl.1.symm) hown w1 w2 w3 w4 hK hP hD hS 6 1 rfl rfl rfl rfl (Nat.le_of_ble_eq_true rfl) ⟨Nat.le_of_ble_eq_true rfl, Nat.le_of_ble_eq_true rfl⟩ (Nat.le_of_ble_eq_true rfl) dX0_lookAt_11 (fun H locs hP hD hS => ?_)
  have hP : va_P D vwCl [(oa, ob 0 [.ref op, .ref od, .ref ow, .ref ol, iv fw, iv fr, iv ew, iv gp0, iv rm0, iv os, iv ok, iv ml]), (op, ar cI 5 pr), (od, ar cI 5 sd0), (ow, ar cI 3050 wo), (ol, ar cI 6 la), (sa, ob 1 [.ref sp, iv wks, iv wk, iv gp, iv rm, iv mv, iv tk]), (sp, ar cI 5 pr), (h, ob 2 [.ref hd, .ref hp, iv st, iv md, iv ps]), (hd, ar cI 5 d), (hp, ar cI 3 k)] H := hP
  have hD : va_D A [(oa, ob 0 [.ref op, .ref od, .ref ow, .ref ol, iv fw, iv fr, iv ew, iv gp0, iv rm0, iv os, iv ok, iv ml]), (op, ar cI 5 pr), (od, ar cI 5 sd0), (ow, ar cI 3050 wo), (ol, ar cI 6 la), (sa, ob 1 [.ref sp, iv wks, iv wk, iv gp, iv rm, iv mv, iv tk]), (sp, ar cI 5 pr), (h, ob 2 [.ref hd, .ref hp, iv st, iv md, iv ps]), (hd, ar cI 5 d), (hp, ar cI 3 k)] := hD
  refine lv_aload_n hx hb dX0_lookAt_14 rfl (lv_at hl 2 rfl) ?_
  refine va_getN (D := D) (ci := 2) (v := .ref hd) (C := RX2) (T := TX2) (N := 5) hx hb hts inX2 hown hK hP 7 rfl rfl 0 (by decide) (hE.at 12 rfl) (fun _ h9 => h9) rfl dX0_lookAt_15 ?_
  refine lv_iconst (v := zI 0) hx hb dX0_lookAt_18 rfl ?_
  refine lv_aload_n hx hb dX0_lookAt_19 rfl (lv_at hl 0 rfl) ?_
  refine va_get (D := D) (ci := 0) (v := .ref od) (C := RX0) (T := TX0) (N := 12) hx hb hts inX0 hown hK hP 0 rfl rfl 1 (by decide) w5 (fun _ h9 => h9) rfl dX0_lookAt_20 ?_
  refine lv_iconst (v := zI 0) hx hb dX0_lookAt_23 rfl ?_
  refine lv_iconst (v := zI 5) hx hb dX0_lookAt_24 rfl ?_
  refine i_copy (N := 5) hx hb (hml.trans hl.1.symm) hown w1 w2 w3 w4 hK hP hD hS 8 2 rfl rfl rfl rfl (Nat.le_of_ble_eq_true rfl) ⟨Nat.le_of_ble_eq_true rfl, Nat.le_of_ble_eq_true rfl⟩ (Nat.le_of_ble_eq_true rfl) dX0_lookAt_25 (fun H locs hP hD hS => ?_)
  have hP : va_P D vwCl [(oa, ob 0 [.ref op, .ref od, .ref ow, .ref ol, iv fw, iv fr, iv ew, iv gp0, iv rm0, iv os, iv ok, iv ml]), (op, ar cI 5 pr), (od, ar cI 5 d), (ow, ar cI 3050 wo), (ol, ar cI 6 la), (sa, ob 1 [.ref sp, iv wks, iv wk, iv gp, iv rm, iv mv, iv tk]), (sp, ar cI 5 pr), (h, ob 2 [.ref hd, .ref hp, iv st, iv md, iv ps]), (hd, ar cI 5 d), (hp, ar cI 3 k)] H := hP
  have hD : va_D A [(oa, ob 0 [.ref op, .ref od, .ref ow, .ref ol, iv fw, iv fr, iv ew, iv gp0, iv rm0, iv os, iv ok, iv ml]), (op, ar cI 5 pr), (od, ar cI 5 d), (ow, ar cI 3050 wo), (ol, ar cI 6 la), (sa, ob 1 [.ref sp, iv wks, iv wk, iv gp, iv rm, iv mv, iv tk]), (sp, ar cI 5 pr), (h, ob 2 [.ref hd, .ref hp, iv st, iv md, iv ps]), (hd, ar cI 5 d), (hp, ar cI 3 k)] := hD
  refine lv_aload_n hx hb dX0_lookAt_28 rfl (lv_at hl 0 rfl) ?_
  refine lv_aload_n hx hb dX0_lookAt_29 rfl (lv_at hl 1 rfl) ?_
  refine va_getN (D := D) (ci := 1) (v := iv wk) (C := RX1) (T := TX1) (N := 7) hx hb hts inX1 hown hK hP 5 rfl rfl 2 (by decide) (hE.at 5 rfl) (fun _ h9 => h9) rfl dX0_lookAt_30 ?_
  refine va_put (D := D) (ci := 0) (v := iv wk) (ty := .int) (C := RX0) (T := TX0) (N := 12) hx hb hts inX0 tyX0 tyX0_ok nmX0 hown hK hP hD hS 0 rfl rfl 4 (by decide) w6 (fun _ h9 => h9) rfl (by decide +kernel) rfl rfl (Nat.le_of_ble_eq_true rfl) dX0_lookAt_33 (fun H locs hP hD hS => ?_)
  have hP : va_P D vwCl [(oa, ob 0 [.ref op, .ref od, .ref ow, .ref ol, iv wk, iv fr, iv ew, iv gp0, iv rm0, iv os, iv ok, iv ml]), (op, ar cI 5 pr), (od, ar cI 5 d), (ow, ar cI 3050 wo), (ol, ar cI 6 la), (sa, ob 1 [.ref sp, iv wks, iv wk, iv gp, iv rm, iv mv, iv tk]), (sp, ar cI 5 pr), (h, ob 2 [.ref hd, .ref hp, iv st, iv md, iv ps]), (hd, ar cI 5 d), (hp, ar cI 3 k)] H := hP
  have hD : va_D A [(oa, ob 0 [.ref op, .ref od, .ref ow, .ref ol, iv wk, iv fr, iv ew, iv gp0, iv rm0, iv os, iv ok, iv ml]), (op, ar cI 5 pr), (od, ar cI 5 d), (ow, ar cI 3050 wo), (ol, ar cI 6 la), (sa, ob 1 [.ref sp, iv wks, iv wk, iv gp, iv rm, iv mv, iv tk]), (sp, ar cI 5 pr), (h, ob 2 [.ref hd, .ref hp, iv st, iv md, iv ps]), (hd, ar cI 5 d), (hp, ar cI 3 k)] := hD
  refine lv_aload_n hx hb dX0_lookAt_36 rfl (lv_at hl 0 rfl) ?_
  refine lv_aload_n hx hb dX0_lookAt_37 rfl (lv_at hl 1 rfl) ?_
  refine va_getN (D := D) (ci := 1) (v := iv wks) (C := RX1) (T := TX1) (N := 7) hx hb hts inX1 hown hK hP 5 rfl rfl 1 (by decide) (hE.at 2 rfl) (fun _ h9 => h9) rfl dX0_lookAt_38 ?_
  refine va_put (D := D) (ci := 0) (v := iv wks) (ty := .int) (C := RX0) (T := TX0) (N := 12) hx hb hts inX0 tyX0 tyX0_ok nmX0 hown hK hP hD hS 0 rfl rfl 6 (by decide) w7 (fun _ h9 => h9) rfl (by decide +kernel) rfl rfl (Nat.le_of_ble_eq_true rfl) dX0_lookAt_41 (fun H locs hP hD hS => ?_)
  have hP : va_P D vwCl [(oa, ob 0 [.ref op, .ref od, .ref ow, .ref ol, iv wk, iv fr, iv wks, iv gp0, iv rm0, iv os, iv ok, iv ml]), (op, ar cI 5 pr), (od, ar cI 5 d), (ow, ar cI 3050 wo), (ol, ar cI 6 la), (sa, ob 1 [.ref sp, iv wks, iv wk, iv gp, iv rm, iv mv, iv tk]), (sp, ar cI 5 pr), (h, ob 2 [.ref hd, .ref hp, iv st, iv md, iv ps]), (hd, ar cI 5 d), (hp, ar cI 3 k)] H := hP
  have hD : va_D A [(oa, ob 0 [.ref op, .ref od, .ref ow, .ref ol, iv wk, iv fr, iv wks, iv gp0, iv rm0, iv os, iv ok, iv ml]), (op, ar cI 5 pr), (od, ar cI 5 d), (ow, ar cI 3050 wo), (ol, ar cI 6 la), (sa, ob 1 [.ref sp, iv wks, iv wk, iv gp, iv rm, iv mv, iv tk]), (sp, ar cI 5 pr), (h, ob 2 [.ref hd, .ref hp, iv st, iv md, iv ps]), (hd, ar cI 5 d), (hp, ar cI 3 k)] := hD
  refine lv_aload_n hx hb dX0_lookAt_44 rfl (lv_at hl 0 rfl) ?_
  refine lv_aload_n hx hb dX0_lookAt_45 rfl (lv_at hl 1 rfl) ?_
  refine va_getN (D := D) (ci := 1) (v := iv gp) (C := RX1) (T := TX1) (N := 7) hx hb hts inX1 hown hK hP 5 rfl rfl 3 (by decide) (hE.at 6 rfl) (fun _ h9 => h9) rfl dX0_lookAt_46 ?_
  refine va_put (D := D) (ci := 0) (v := iv gp) (ty := .int) (C := RX0) (T := TX0) (N := 12) hx hb hts inX0 tyX0 tyX0_ok nmX0 hown hK hP hD hS 0 rfl rfl 7 (by decide) w8 (fun _ h9 => h9) rfl (by decide +kernel) rfl rfl (Nat.le_of_ble_eq_true rfl) dX0_lookAt_49 (fun H locs hP hD hS => ?_)
  have hP : va_P D vwCl [(oa, ob 0 [.ref op, .ref od, .ref ow, .ref ol, iv wk, iv fr, iv wks, iv gp, iv rm0, iv os, iv ok, iv ml]), (op, ar cI 5 pr), (od, ar cI 5 d), (ow, ar cI 3050 wo), (ol, ar cI 6 la), (sa, ob 1 [.ref sp, iv wks, iv wk, iv gp, iv rm, iv mv, iv tk]), (sp, ar cI 5 pr), (h, ob 2 [.ref hd, .ref hp, iv st, iv md, iv ps]), (hd, ar cI 5 d), (hp, ar cI 3 k)] H := hP
  have hD : va_D A [(oa, ob 0 [.ref op, .ref od, .ref ow, .ref ol, iv wk, iv fr, iv wks, iv gp, iv rm0, iv os, iv ok, iv ml]), (op, ar cI 5 pr), (od, ar cI 5 d), (ow, ar cI 3050 wo), (ol, ar cI 6 la), (sa, ob 1 [.ref sp, iv wks, iv wk, iv gp, iv rm, iv mv, iv tk]), (sp, ar cI 5 pr), (h, ob 2 [.ref hd, .ref hp, iv st, iv md, iv ps]), (hd, ar cI 5 d), (hp, ar cI 3 k)] := hD
  refine lv_aload_n hx hb dX0_lookAt_52 rfl (lv_at hl 0 rfl) ?_
  refine lv_aload_n hx hb dX0_lookAt_53 rfl (lv_at hl 1 rfl) ?_
  refine va_getN (D := D) (ci := 1) (v := iv rm) (C := RX1) (T := TX1) (N := 7) hx hb hts inX1 hown hK hP 5 rfl rfl 4 (by decide) (hE.at 8 rfl) (fun _ h9 => h9) rfl dX0_lookAt_54 ?_
  refine va_put (D := D) (ci := 0) (v := iv rm) (ty := .int) (C := RX0) (T := TX0) (N := 12) hx hb hts inX0 tyX0 tyX0_ok nmX0 hown hK hP hD hS 0 rfl rfl 8 (by decide) w9 (fun _ h9 => h9) rfl (by decide +kernel) rfl rfl (Nat.le_of_ble_eq_true rfl) dX0_lookAt_57 (fun H locs hP hD hS => ?_)
  have hP : va_P D vwCl [(oa, ob 0 [.ref op, .ref od, .ref ow, .ref ol, iv wk, iv fr, iv wks, iv gp, iv rm, iv os, iv ok, iv ml]), (op, ar cI 5 pr), (od, ar cI 5 d), (ow, ar cI 3050 wo), (ol, ar cI 6 la), (sa, ob 1 [.ref sp, iv wks, iv wk, iv gp, iv rm, iv mv, iv tk]), (sp, ar cI 5 pr), (h, ob 2 [.ref hd, .ref hp, iv st, iv md, iv ps]), (hd, ar cI 5 d), (hp, ar cI 3 k)] H := hP
  have hD : va_D A [(oa, ob 0 [.ref op, .ref od, .ref ow, .ref ol, iv wk, iv fr, iv wks, iv gp, iv rm, iv os, iv ok, iv ml]), (op, ar cI 5 pr), (od, ar cI 5 d), (ow, ar cI 3050 wo), (ol, ar cI 6 la), (sa, ob 1 [.ref sp, iv wks, iv wk, iv gp, iv rm, iv mv, iv tk]), (sp, ar cI 5 pr), (h, ob 2 [.ref hd, .ref hp, iv st, iv md, iv ps]), (hd, ar cI 5 d), (hp, ar cI 3 k)] := hD
  refine lv_aload_n hx hb dX0_lookAt_60 rfl (lv_at hl 0 rfl) ?_
  refine lv_aload_n hx hb dX0_lookAt_61 rfl (lv_at hl 0 rfl) ?_
  refine va_get (D := D) (ci := 0) (v := iv wks) (C := RX0) (T := TX0) (N := 12) hx hb hts inX0 hown hK hP 0 rfl rfl 6 (by decide) w7 (fun _ h9 => h9) rfl dX0_lookAt_62 ?_
  refine lv_aload_n hx hb dX0_lookAt_65 rfl (lv_at hl 0 rfl) ?_
  refine va_get (D := D) (ci := 0) (v := iv wk) (C := RX0) (T := TX0) (N := 12) hx hb hts inX0 hown hK hP 0 rfl rfl 4 (by decide) w6 (fun _ h9 => h9) rfl dX0_lookAt_66 ?_
  refine lv_aload_n hx hb dX0_lookAt_69 rfl (lv_at hl 2 rfl) ?_
  refine lv_aload_n hx hb dX0_lookAt_70 rfl (lv_at hl 0 rfl) ?_
  refine va_get (D := D) (ci := 0) (v := iv wk) (C := RX0) (T := TX0) (N := 12) hx hb hts inX0 hown hK hP 0 rfl rfl 4 (by decide) w6 (fun _ h9 => h9) rfl dX0_lookAt_71 ?_
  refine lv_aload_n hx hb dX0_lookAt_74 rfl (lv_at hl 0 rfl) ?_
  refine va_get (D := D) (ci := 0) (v := iv gp) (C := RX0) (T := TX0) (N := 12) hx hb hts inX0 hown hK hP 0 rfl rfl 7 (by decide) w8 (fun _ h9 => h9) rfl dX0_lookAt_75 ?_
  refine ms_P (va_runVN (As := [iv wk, iv gp]) (rest := [iv wk, iv wks, .ref oa]) ⟨hx, hb, hml, hown, hts⟩ (mt_X2_waitFrom l D cI cS cJ h hd hp d k st md ps wk gp (by omega) (by omega) (by omega)) ⟨va_cnB 2 hts gX0_lookAt_X2_waitFrom_n57 rfl rfl rfl (hE.nw 30 rfl) w10 (by decide +kernel) ⟨Nat.le_of_ble_eq_true rfl, Nat.le_of_ble_eq_true rfl⟩, w11, w12⟩ (pc_V (ci := 2) (q0 := 0) hK (hP.sub (ws' := [(h, ob 2 [.ref hd, .ref hp, iv st, iv md, iv ps]), (hd, ar cI 5 d), (hp, ar cI 3 k)]) [7, 8, 9] rfl) rfl rfl (pcP_S hE hK (hP.sub (ws' := [(h, ob 2 [.ref hd, .ref hp, iv st, iv md, iv ps]), (hd, ar cI 5 d), (hp, ar cI 3 k)]) [7, 8, 9] rfl))) rfl rfl hl.1 rfl (lv_room (Nat.le_of_ble_eq_true rfl)) dX0_lookAt_78 ⟨Nat.le_of_ble_eq_true rfl, Nat.le_of_ble_eq_true rfl⟩) ?_
  have hwv : 0 ≤ wtv md gp wk ∧ wtv md gp wk ≤ 200 := by unfold wtv; omega
  refine i_iadd hx hb dX0_lookAt_81 ?_
  refine i_min hx hb (hml.trans hl.1.symm) hown w13 w14 w15 w16 ⟨Nat.le_of_ble_eq_true rfl, Nat.le_of_ble_eq_true rfl, Nat.le_of_ble_eq_true rfl, Nat.le_of_ble_eq_true rfl⟩ (Nat.le_of_ble_eq_true rfl) ⟨by omega, by omega⟩ ⟨by omega, by omega⟩ dX0_lookAt_82 ?_
  refine va_put (D := D) (ci := 0) (v := iv (min wks (wk + (wtv md gp wk)))) (ty := .int) (C := RX0) (T := TX0) (N := 12) hx hb hts inX0 tyX0 tyX0_ok nmX0 hown hK hP hD hS 0 rfl rfl 5 (by decide) w17 (fun _ h9 => h9) rfl (by decide +kernel) rfl rfl (Nat.le_of_ble_eq_true rfl) dX0_lookAt_85 (fun H locs hP hD hS => ?_)
  have hP : va_P D vwCl [(oa, ob 0 [.ref op, .ref od, .ref ow, .ref ol, iv wk, iv (min wks (wk + (wtv md gp wk))), iv wks, iv gp, iv rm, iv os, iv ok, iv ml]), (op, ar cI 5 pr), (od, ar cI 5 d), (ow, ar cI 3050 wo), (ol, ar cI 6 la), (sa, ob 1 [.ref sp, iv wks, iv wk, iv gp, iv rm, iv mv, iv tk]), (sp, ar cI 5 pr), (h, ob 2 [.ref hd, .ref hp, iv st, iv md, iv ps]), (hd, ar cI 5 d), (hp, ar cI 3 k)] H := hP
  have hD : va_D A [(oa, ob 0 [.ref op, .ref od, .ref ow, .ref ol, iv wk, iv (min wks (wk + (wtv md gp wk))), iv wks, iv gp, iv rm, iv os, iv ok, iv ml]), (op, ar cI 5 pr), (od, ar cI 5 d), (ow, ar cI 3050 wo), (ol, ar cI 6 la), (sa, ob 1 [.ref sp, iv wks, iv wk, iv gp, iv rm, iv mv, iv tk]), (sp, ar cI 5 pr), (h, ob 2 [.ref hd, .ref hp, iv st, iv md, iv ps]), (hd, ar cI 5 d), (hp, ar cI 3 k)] := hD
  refine lv_aload_n hx hb dX0_lookAt_88 rfl (lv_at hl 0 rfl) ?_
  refine lv_aload_n hx hb dX0_lookAt_89 rfl (lv_at hl 2 rfl) ?_
  refine va_getN (D := D) (ci := 2) (v := iv st) (C := RX2) (T := TX2) (N := 5) hx hb hts inX2 hown hK hP 7 rfl rfl 2 (by decide) (hE.at 15 rfl) (fun _ h9 => h9) rfl dX0_lookAt_90 ?_
  refine va_put (D := D) (ci := 0) (v := iv st) (ty := .int) (C := RX0) (T := TX0) (N := 12) hx hb hts inX0 tyX0 tyX0_ok nmX0 hown hK hP hD hS 0 rfl rfl 9 (by decide) w18 (fun _ h9 => h9) rfl (by decide +kernel) rfl rfl (Nat.le_of_ble_eq_true rfl) dX0_lookAt_93 (fun H locs hP hD hS => ?_)
  have hP : va_P D vwCl [(oa, ob 0 [.ref op, .ref od, .ref ow, .ref ol, iv wk, iv (min wks (wk + (wtv md gp wk))), iv wks, iv gp, iv rm, iv st, iv ok, iv ml]), (op, ar cI 5 pr), (od, ar cI 5 d), (ow, ar cI 3050 wo), (ol, ar cI 6 la), (sa, ob 1 [.ref sp, iv wks, iv wk, iv gp, iv rm, iv mv, iv tk]), (sp, ar cI 5 pr), (h, ob 2 [.ref hd, .ref hp, iv st, iv md, iv ps]), (hd, ar cI 5 d), (hp, ar cI 3 k)] H := hP
  have hD : va_D A [(oa, ob 0 [.ref op, .ref od, .ref ow, .ref ol, iv wk, iv (min wks (wk + (wtv md gp wk))), iv wks, iv gp, iv rm, iv st, iv ok, iv ml]), (op, ar cI 5 pr), (od, ar cI 5 d), (ow, ar cI 3050 wo), (ol, ar cI 6 la), (sa, ob 1 [.ref sp, iv wks, iv wk, iv gp, iv rm, iv mv, iv tk]), (sp, ar cI 5 pr), (h, ob 2 [.ref hd, .ref hp, iv st, iv md, iv ps]), (hd, ar cI 5 d), (hp, ar cI 3 k)] := hD
  refine lv_aload_n hx hb dX0_lookAt_96 rfl (lv_at hl 0 rfl) ?_
  refine lv_aload_n hx hb dX0_lookAt_97 rfl (lv_at hl 2 rfl) ?_
  refine ms_P (va_runVN (As := []) (rest := [.ref oa]) ⟨hx, hb, hml, hown, hts⟩ (mt_X2_wholeStock l D cI cS cJ h hd hp d k st md ps) ⟨va_cnB 0 hts gX0_lookAt_X2_wholeStock_n75 rfl rfl rfl (hE.nw 31 rfl) w10 (by decide +kernel) ⟨Nat.le_of_ble_eq_true rfl, Nat.le_of_ble_eq_true rfl⟩, w19, w20⟩ (pc_V (ci := 2) (q0 := 0) hK (hP.sub (ws' := [(h, ob 2 [.ref hd, .ref hp, iv st, iv md, iv ps]), (hd, ar cI 5 d), (hp, ar cI 3 k)]) [7, 8, 9] rfl) rfl rfl (pcP_S hE hK (hP.sub (ws' := [(h, ob 2 [.ref hd, .ref hp, iv st, iv md, iv ps]), (hd, ar cI 5 d), (hp, ar cI 3 k)]) [7, 8, 9] rfl))) rfl rfl hl.1 rfl (lv_room (Nat.le_of_ble_eq_true rfl)) dX0_lookAt_98 ⟨Nat.le_of_ble_eq_true rfl, Nat.le_of_ble_eq_true rfl⟩) ?_
  refine va_put (D := D) (ci := 0) (v := iv (whl k)) (ty := .int) (C := RX0) (T := TX0) (N := 12) hx hb hts inX0 tyX0 tyX0_ok nmX0 hown hK hP hD hS 0 rfl rfl 10 (by decide) w21 (fun _ h9 => h9) rfl (by decide +kernel) rfl rfl (Nat.le_of_ble_eq_true rfl) dX0_lookAt_101 (fun H locs hP hD hS => ?_)
  have hP : va_P D vwCl [(oa, ob 0 [.ref op, .ref od, .ref ow, .ref ol, iv wk, iv (min wks (wk + (wtv md gp wk))), iv wks, iv gp, iv rm, iv st, iv (whl k), iv ml]), (op, ar cI 5 pr), (od, ar cI 5 d), (ow, ar cI 3050 wo), (ol, ar cI 6 la), (sa, ob 1 [.ref sp, iv wks, iv wk, iv gp, iv rm, iv mv, iv tk]), (sp, ar cI 5 pr), (h, ob 2 [.ref hd, .ref hp, iv st, iv md, iv ps]), (hd, ar cI 5 d), (hp, ar cI 3 k)] H := hP
  have hD : va_D A [(oa, ob 0 [.ref op, .ref od, .ref ow, .ref ol, iv wk, iv (min wks (wk + (wtv md gp wk))), iv wks, iv gp, iv rm, iv st, iv (whl k), iv ml]), (op, ar cI 5 pr), (od, ar cI 5 d), (ow, ar cI 3050 wo), (ol, ar cI 6 la), (sa, ob 1 [.ref sp, iv wks, iv wk, iv gp, iv rm, iv mv, iv tk]), (sp, ar cI 5 pr), (h, ob 2 [.ref hd, .ref hp, iv st, iv md, iv ps]), (hd, ar cI 5 d), (hp, ar cI 3 k)] := hD
  have hW9 : WE D vwCl [(oa, ob 0 [.ref op, .ref od, .ref ow, .ref ol, iv wk, iv (min wks (wk + (wtv md gp wk))), iv wks, iv gp, iv rm, iv st, iv (whl k), iv ml]), (op, ar cI 5 pr), (od, ar cI 5 d), (ow, ar cI 3050 wo), (ol, ar cI 6 la), (sa, ob 1 [.ref sp, iv wks, iv wk, iv gp, iv rm, iv mv, iv tk]), (sp, ar cI 5 pr), (h, ob 2 [.ref hd, .ref hp, iv st, iv md, iv ps]), (hd, ar cI 5 d), (hp, ar cI 3 k)] [(oa, ob 0 [.ref op, .ref od, .ref ow, .ref ol, iv wk, iv (min wks (wk + wtv md gp wk)), iv wks, iv gp, iv rm, iv st, iv (whl k), iv ml]), (op, ar cI 5 pr), (od, ar cI 5 d), (ow, ar cI 3050 wo), (ol, ar cI 6 la), (sa, ob 1 [.ref sp, iv wks, iv wk, iv gp, iv rm, iv mv, iv tk]), (sp, ar cI 5 pr), (h, ob 2 [.ref hd, .ref hp, iv st, iv md, iv ps]), (hd, ar cI 5 d), (hp, ar cI 3 k)] := ⟨ce_of (by first | rfl | (simp; done)), ⟨ce_rf, ⟨ce_rf, ⟨ce_rf, ⟨ce_rf, ⟨ce_rf, ⟨ce_rf, ⟨ce_rf, ⟨ce_rf, ⟨ce_rf, trivial⟩⟩⟩⟩⟩⟩⟩⟩⟩⟩
  subst hQ
  exact r_Mv hx hb hr hlocks dX0_lookAt_104 hS (hW9.P (hP.sub (ws' := [(oa, ob 0 [.ref op, .ref od, .ref ow, .ref ol, iv wk, iv (min wks (wk + (wtv md gp wk))), iv wks, iv gp, iv rm, iv st, iv (whl k), iv ml]), (op, ar cI 5 pr), (od, ar cI 5 d), (ow, ar cI 3050 wo), (ol, ar cI 6 la), (sa, ob 1 [.ref sp, iv wks, iv wk, iv gp, iv rm, iv mv, iv tk]), (sp, ar cI 5 pr), (h, ob 2 [.ref hd, .ref hp, iv st, iv md, iv ps]), (hd, ar cI 5 d), (hp, ar cI 3 k)]) [0, 1, 2, 3, 4, 5, 6, 7, 8, 9] rfl)) (hW9.D (hD.sub (ws' := [(oa, ob 0 [.ref op, .ref od, .ref ow, .ref ol, iv wk, iv (min wks (wk + (wtv md gp wk))), iv wks, iv gp, iv rm, iv st, iv (whl k), iv ml]), (op, ar cI 5 pr), (od, ar cI 5 d), (ow, ar cI 3050 wo), (ol, ar cI 6 la), (sa, ob 1 [.ref sp, iv wks, iv wk, iv gp, iv rm, iv mv, iv tk]), (sp, ar cI 5 pr), (h, ob 2 [.ref hd, .ref hp, iv st, iv md, iv ps]), (hd, ar cI 5 d), (hp, ar cI 3 k)]) [0, 1, 2, 3, 4, 5, 6, 7, 8, 9] (by decide) rfl)) (⟨rfl, rfl⟩) (Nat.le_of_ble_eq_true rfl) (Nat.le_of_ble_eq_true rfl)

theorem fnd_in {f : Int → Int} {v : Int} : ∀ (n : Nat) {b i : Int}, b ≤ i → i < b + n → f i = v → b + n ≤ 5 → b ≤ fnd f v b n ∧ fnd f v b n < 5 := by
  intro n
  induction n with
  | zero => intro b i h1 h2; omega
  | succ n ih =>
    intro b i h1 h2 h3 h4
    show b ≤ (if f b = v then b else fnd f v (b + 1) n) ∧ (if f b = v then b else fnd f v (b + 1) n) < 5
    by_cases hb : f b = v
    · rw [if_pos hb]; omega
    · rw [if_neg hb]
      have hne : b ≠ i := fun h => hb (by rw [h]; exact h3)
      have := ih (b := b + 1) (i := i) (by omega) (by omega) h3 (by omega)
      omega

abbrev rm_X0_bestStepIn : Room := { frames := 6, cells := 0, slots := 0, locals := 145 }
set_option maxHeartbeats 4000000 in
set_option maxRecDepth 100000 in
/-- the step of a week in the best plan -/
theorem mt_X0_bestStepIn (l : Launch) (D : va_G) (cI cS cJ : ClassId) (oa : Nat) (op : Nat) (od : Nat) (ow : Nat) (ol : Nat) (pr : Int → Int) (sd : Int → Int) (wo : Int → Int) (la : Int → Int) (fw : Int) (fr : Int) (ew : Int) (gp : Int) (rm : Int) (os : Int) (ok : Int) (ml : Int) (wk : Int) (hB : PB pr sd fw fr ew gp rm os ok) (hwk : fw ≤ wk ∧ wk < ew) : cM l yX0_bestStepIn wsX0_bestStepIn rm_X0_bestStepIn [.ref oa, iv wk] D (tyL cI cS cJ) [(oa, ob 0 [.ref op, .ref od, .ref ow, .ref ol, iv fw, iv fr, iv ew, iv gp, iv rm, iv os, iv ok, iv ml]), (op, ar cI 5 pr), (od, ar cI 5 sd), (ow, ar cI 3050 wo), (ol, ar cI 6 la)] (fun r_ w_ => ∃ wo2 : Int → Int, r_ = some (iv ((pst pr sd gp rm 60 (ew - fw).toNat os (fr - fw) ok (wk - fw + 1).toNat).1)) ∧ w_ = [(oa, ob 0 [.ref op, .ref od, .ref ow, .ref ol, iv fw, iv fr, iv ew, iv gp, iv rm, iv os, iv ok, iv 60]), (op, ar cI 5 pr), (od, ar cI 5 sd), (ow, ar cI 3050 wo2), (ol, ar cI 6 la)]) 0 0 := by
  refine en_M (cc := cX0_bestStepIn) (maxL := 7) (ret := (some .int)) (by decide) rfl (Nat.le_of_ble_eq_true rfl) ?_
  intro p e s m args below meth c ls A hX hE hP hK hD hS hA hl Q hQ
  obtain ⟨hx, hb, hr, hml, hts, hown, hlocks, hnm⟩ := hX
  have hown : s.vm.findClass RX0 = some m.cls := hown
  have hl : lv_has ls 7 [(0, .ref oa), (1, iv wk)] := hl
  have inX0 : ∀ w ∈ u_ws RX0 TX0 12, w ∈ wsX0_bestStepIn := by decide +kernel
  have w0 : (Cond.fieldLink RX0 72 RX0 "ownStep" "I").before args s = true := hts _ (by decide +kernel)
  have w1 : (Cond.fieldLink RX0 79 RX0 "ownStock" "I").before args s = true := hts _ (by decide +kernel)
  have w2 : (Cond.fieldLink RX0 66 RX0 "freeWeek" "I").before args s = true := hts _ (by decide +kernel)
  have w3 : (Cond.fieldLink RX0 40 RX0 "firstWeek" "I").before args s = true := hts _ (by decide +kernel)
  have w4 : (Cond.fieldLink RX0 15 RX0 "demands" "[I").before args s = true := hts _ (by decide +kernel)
  have w5 : (Cond.methodLink RX0 61 Lib.Math.min.name).before args s = true := hts _ (by decide +kernel)
  have w6 : (Cond.static Lib.Math.min.name).before args s = true := hts _ (by decide +kernel)
  have w7 : (Cond.initialized "java/lang/Math").before args s = true := hts _ (by decide +kernel)
  have w8 : (Cond.code Lib.Math.min.name Lib.Math.min.code 2 (some .int)).before args s = true := hts _ (by decide +kernel)
  have w9 : (Cond.fieldLink RX0 52 RX0 "gap" "I").before args s = true := hts _ (by decide +kernel)
  obtain ⟨hfw, hfr, hgp, hrm, hos, hok, hpr, hsd⟩ := id hB
  have hd0 : ∀ j : Int, 0 ≤ j → j < 5 → 0 ≤ sd j := fun j a b => (hsd j a b).1
  have hp0 : ∀ j : Int, 0 ≤ j → j < 5 → 0 ≤ pr j := fun j a b => (hpr j a b).1
  refine lv_aload_n hx hb dX0_bestStepIn_0 rfl (lv_at hl 0 rfl) ?_
  refine lv_bipush (v := zI 60) hx hb dX0_bestStepIn_1 (by decide) ?_
  refine ms_M (wc := [(oa, ob 0 [.ref op, .ref od, .ref ow, .ref ol, iv fw, iv fr, iv ew, iv gp, iv rm, iv os, iv ok, iv ml]), (op, ar cI 5 pr), (od, ar cI 5 sd), (ow, ar cI 3050 wo), (ol, ar cI 6 la)]) (wr := []) (va_runV (As := [iv 60]) (rest := []) ⟨hx, hb, hml, hown, hts⟩ ((mt_X0_tellWorths l D cI cS cJ oa op od ow ol pr sd wo la fw fr ew gp rm os ok ml 60 (hB) (⟨by decide, by decide⟩)) s.heap.size) (cwV 1 hts gX0_bestStepIn_X0_tellWorths rfl rfl rfl (by decide +kernel) ⟨Nat.le_of_ble_eq_true rfl, Nat.le_of_ble_eq_true rfl⟩) (pc_V (ci := 0) (q0 := 0) hK (hP.sub (ws' := [(oa, ob 0 [.ref op, .ref od, .ref ow, .ref ol, iv fw, iv fr, iv ew, iv gp, iv rm, iv os, iv ok, iv ml]), (op, ar cI 5 pr), (od, ar cI 5 sd), (ow, ar cI 3050 wo), (ol, ar cI 6 la)]) [0, 1, 2, 3, 4] rfl) rfl rfl (pcM_S hE hK (hP.sub (ws' := [(oa, ob 0 [.ref op, .ref od, .ref ow, .ref ol, iv fw, iv fr, iv ew, iv gp, iv rm, iv os, iv ok, iv ml]), (op, ar cI 5 pr), (od, ar cI 5 sd), (ow, ar cI 3050 wo), (ol, ar cI 6 la)]) [0, 1, 2, 3, 4] rfl) (hD.sub (ws' := [(oa, ob 0 [.ref op, .ref od, .ref ow, .ref ol, iv fw, iv fr, iv ew, iv gp, iv rm, iv os, iv ok, iv ml]), (op, ar cI 5 pr), (od, ar cI 5 sd), (ow, ar cI 3050 wo), (ol, ar cI 6 la)]) [0, 1, 2, 3, 4] (by decide) rfl))) rfl rfl hl.1 rfl (lv_room (Nat.le_of_ble_eq_true rfl)) dX0_bestStepIn_3 ⟨Nat.le_of_ble_eq_true rfl, Nat.le_of_ble_eq_true rfl⟩) hP hD hS hA [0, 1, 2, 3, 4] [] rfl rfl (by decide) (by decide) (fun r_ w_ H locs hq_ hP hD hS => ?_)
  obtain ⟨wo2_1, hf_2, rfl, rfl⟩ := hq_
  have hP : va_P D vwCl [(oa, ob 0 [.ref op, .ref od, .ref ow, .ref ol, iv fw, iv fr, iv ew, iv gp, iv rm, iv os, iv ok, iv 60]), (op, ar cI 5 pr), (od, ar cI 5 sd), (ow, ar cI 3050 wo2_1), (ol, ar cI 6 la)] H := hP
  have hD : va_D A [(oa, ob 0 [.ref op, .ref od, .ref ow, .ref ol, iv fw, iv fr, iv ew, iv gp, iv rm, iv os, iv ok, iv 60]), (op, ar cI 5 pr), (od, ar cI 5 sd), (ow, ar cI 3050 wo2_1), (ol, ar cI 6 la)] := hD
  have hG := hf_2
  refine lv_aload_n hx hb dX0_bestStepIn_6 rfl (lv_at hl 0 rfl) ?_
  refine va_get (D := D) (ci := 0) (v := iv os) (C := RX0) (T := TX0) (N := 12) hx hb hts inX0 hown hK hP 0 rfl rfl 9 (by decide) w0 (fun _ h9 => h9) rfl dX0_bestStepIn_7 ?_
  refine lv_istore_n (lv' := [(2, iv os), (0, .ref oa), (1, iv wk)]) hx hb dX0_bestStepIn_10 rfl hl (by decide) rfl (fun ls hl => ?_)
  refine lv_aload_n hx hb dX0_bestStepIn_11 rfl (lv_at hl 1 rfl) ?_
  refine va_get (D := D) (ci := 0) (v := iv ok) (C := RX0) (T := TX0) (N := 12) hx hb hts inX0 hown hK hP 0 rfl rfl 10 (by decide) w1 (fun _ h9 => h9) rfl dX0_bestStepIn_12 ?_
  refine lv_istore_n (lv' := [(3, iv ok), (2, iv os), (0, .ref oa), (1, iv wk)]) hx hb dX0_bestStepIn_15 rfl hl (by decide) rfl (fun ls hl => ?_)
  refine lv_aload_n hx hb dX0_bestStepIn_16 rfl (lv_at hl 2 rfl) ?_
  refine va_get (D := D) (ci := 0) (v := iv fr) (C := RX0) (T := TX0) (N := 12) hx hb hts inX0 hown hK hP 0 rfl rfl 5 (by decide) w2 (fun _ h9 => h9) rfl dX0_bestStepIn_17 ?_
  refine lv_istore (lv' := [(4, iv fr), (3, iv ok), (2, iv os), (0, .ref oa), (1, iv wk)]) hx hb dX0_bestStepIn_20 hl (by decide) rfl (fun ls hl => ?_)
  refine lv_aload_n hx hb dX0_bestStepIn_22 rfl (lv_at hl 3 rfl) ?_
  refine va_get (D := D) (ci := 0) (v := iv fw) (C := RX0) (T := TX0) (N := 12) hx hb hts inX0 hown hK hP 0 rfl rfl 4 (by decide) w3 (fun _ h9 => h9) rfl dX0_bestStepIn_23 ?_
  refine lv_istore (lv' := [(5, iv fw), (4, iv fr), (3, iv ok), (2, iv os), (0, .ref oa), (1, iv wk)]) hx hb dX0_bestStepIn_26 hl (by decide) rfl (fun ls hl => ?_)
  have J_28 : ∀ (n_28 : Nat) (nw : Int) (sp : Int) (lf : Int) (fe : Int) (hnw : fw ≤ nw ∧ nw ≤ wk + 1) (hsp : os ≤ sp ∧ sp < 5) (hlf : 0 ≤ lf ∧ lf ≤ ok) (hfe : fr ≤ fe ∧ fe ≤ 100) (hps : (pst pr sd gp rm 60 (ew - fw).toNat os (fr - fw) ok (nw - fw).toNat) = (sp, max 0 (fe - nw), lf)) (hm_28 : ((wk + 1 - nw).toNat) < n_28) (ls : Array Slot) (hl : lv_has ls 7 [(0, .ref oa), (1, iv wk), (2, iv sp), (3, iv lf), (4, iv fe), (5, iv nw)]), W p l e rm_X0_bestStepIn s m args below meth c H locs (0 + 0) (0 + 0) Q (F0 m 28 ls []) := by
    intro n_28
    induction n_28 with
    | zero => intro nw sp lf fe hnw hsp hlf hfe hps hm_28 ls hl; exact absurd hm_28 (Nat.not_lt_zero _)
    | succ n_28 ih_28 =>
      intro nw sp lf fe hnw hsp hlf hfe hps hm_28 ls hl
      have hn1 : (ew - fw).toNat - (nw - fw).toNat = (ew - nw).toNat := by omega
      refine lv_iload hx hb dX0_bestStepIn_28 (lv_at hl 5 rfl) ?_
      refine lv_iload_n hx hb dX0_bestStepIn_30 rfl (lv_at hl 1 rfl) ?_
      refine i_icmp_gt (tgt := 93) hx hb ⟨by omega, by omega⟩ ⟨by omega, by omega⟩ dX0_bestStepIn_31 (by decide) (fun c_3 => ?_) (fun c_3 => ?_)
      · skip
        refine lv_iload_n hx hb dX0_bestStepIn_93 rfl (lv_at hl 2 rfl) ?_
        refine i_eqz (y := (pst pr sd gp rm 60 (ew - fw).toNat os (fr - fw) ok (wk - fw + 1).toNat).1) (by rw [show (wk - fw + 1).toNat = (nw - fw).toNat by omega, hps]) ?_
        subst hQ
        exact r_Mi hx hb hr hlocks (by first | rfl | decide) dX0_bestStepIn_94 hS (hP.sub (ws' := [(oa, ob 0 [.ref op, .ref od, .ref ow, .ref ol, iv fw, iv fr, iv ew, iv gp, iv rm, iv os, iv ok, iv 60]), (op, ar cI 5 pr), (od, ar cI 5 sd), (ow, ar cI 3050 wo2_1), (ol, ar cI 6 la)]) [0, 1, 2, 3, 4] rfl) (hD.sub (ws' := [(oa, ob 0 [.ref op, .ref od, .ref ow, .ref ol, iv fw, iv fr, iv ew, iv gp, iv rm, iv os, iv ok, iv 60]), (op, ar cI 5 pr), (od, ar cI 5 sd), (ow, ar cI 3050 wo2_1), (ol, ar cI 6 la)]) [0, 1, 2, 3, 4] (by decide) rfl) (⟨wo2_1, rfl, rfl⟩) (Nat.le_of_ble_eq_true rfl) (Nat.le_of_ble_eq_true rfl)
      · skip
        refine lv_iload hx hb dX0_bestStepIn_34 (lv_at hl 5 rfl) ?_
        refine lv_iload hx hb dX0_bestStepIn_36 (lv_at hl 4 rfl) ?_
        refine i_icmp_lt (tgt := 74) hx hb ⟨by omega, by omega⟩ ⟨by omega, by omega⟩ dX0_bestStepIn_38 (by decide) (fun c_4 => ?_) (fun c_4 => ?_)
        · skip
          have hfi := fnd_wait (pr := pr) (d := sd) (g := gp) (r := rm) (ml := 60) hd0 hp0 hrm.1 (ew - nw - 1).toNat (b := sp) (w := max 0 (fe - nw)) (l := lf) (by omega) (by omega) (by omega) hlf.1
          rw [show (ew - nw - 1).toNat + 1 = (ew - nw).toNat by omega] at hfi
          have hsd1 := hsd sp (by omega) (by omega)
          have hpn : pst pr sd gp rm 60 (ew - fw).toNat os (fr - fw) ok (nw + 1 - fw).toNat = (sp, max 0 (fe - (nw + 1)), lf - min lf (sd sp)) := by
            rw [show (nw + 1 - fw).toNat = (nw - fw).toNat + 1 by omega]
            unfold pst
            rw [hps, hn1]
            simp only []
            rw [show (ew - nw).toNat - 1 = (ew - nw - 1).toNat by omega, hfi, if_neg (show ¬ sp < sp by omega), if_pos (show 0 < max 0 (fe - nw) by omega)]
            rw [show max 0 (fe - nw) - 1 = max 0 (fe - (nw + 1)) by omega, show min (sd sp) lf = min lf (sd sp) by omega]
          refine lv_iload_n hx hb dX0_bestStepIn_74 rfl (lv_at hl 3 rfl) ?_
          refine lv_iload_n hx hb dX0_bestStepIn_75 rfl (lv_at hl 3 rfl) ?_
          refine lv_aload_n hx hb dX0_bestStepIn_76 rfl (lv_at hl 0 rfl) ?_
          refine va_get (D := D) (ci := 0) (v := .ref od) (C := RX0) (T := TX0) (N := 12) hx hb hts inX0 hown hK hP 0 rfl rfl 1 (by decide) w4 (fun _ h9 => h9) rfl dX0_bestStepIn_77 ?_
          refine lv_iload_n hx hb dX0_bestStepIn_80 rfl (lv_at hl 2 rfl) ?_
          refine i_iald hx hb hK hP 2 0 rfl rfl (by omega) (by omega) (by decide) dX0_bestStepIn_81 ?_
          refine i_min hx hb (hml.trans hl.1.symm) hown w5 w6 w7 w8 ⟨Nat.le_of_ble_eq_true rfl, Nat.le_of_ble_eq_true rfl, Nat.le_of_ble_eq_true rfl, Nat.le_of_ble_eq_true rfl⟩ (Nat.le_of_ble_eq_true rfl) ⟨by omega, by omega⟩ ⟨by omega, by omega⟩ dX0_bestStepIn_82 ?_
          refine i_isub hx hb dX0_bestStepIn_85 ?_
          refine lv_istore_n (lv' := [(3, iv (lf - (min lf (sd sp)))), (0, .ref oa), (1, iv wk), (2, iv sp), (4, iv fe), (5, iv nw)]) hx hb dX0_bestStepIn_86 rfl hl (by decide) rfl (fun ls hl => ?_)
          refine i_iinc (n := 1) (lv' := [(5, iv (nw + 1)), (3, iv (lf - (min lf (sd sp)))), (0, .ref oa), (1, iv wk), (2, iv sp), (4, iv fe)]) hx hb dX0_bestStepIn_87 hl (k := 5) rfl (by decide) rfl (fun ls hl => ?_)
          refine lv_goto (tgt := 28) hx hb dX0_bestStepIn_90 (by decide) ?_
          exact ih_28 (nw + 1) sp (lf - (min lf (sd sp))) fe (by omega) (by omega) (by omega) (by omega) (hpn) (by omega) ls (lv_sub hl [2, 3, 4, 1, 5, 0] rfl)
        · skip
          have hne9 : pv pr sd gp rm 60 (ew - nw).toNat sp 0 lf ≠ -1 := by have := pv_pos (pr := pr) (d := sd) (g := gp) (r := rm) (ml := 60) hd0 hp0 hrm.1 (ew - nw).toNat sp 0 lf (by omega) (by omega) hlf.1 (by omega); omega
          have hG3 := hG.mono (show fr ≤ nw by omega)
          refine lv_aload_n hx hb dX0_bestStepIn_41 rfl (lv_at hl 0 rfl) ?_
          refine lv_iload hx hb dX0_bestStepIn_42 (lv_at hl 5 rfl) ?_
          refine lv_iload_n hx hb dX0_bestStepIn_44 rfl (lv_at hl 2 rfl) ?_
          refine lv_iload_n hx hb dX0_bestStepIn_45 rfl (lv_at hl 3 rfl) ?_
          refine ms_P (va_runV (As := [iv nw, iv sp, iv lf]) (rest := []) ⟨hx, hb, hml, hown, hts⟩ (mt_X0_lowestBestStep l D cI cS cJ oa op od ow ol pr sd wo2_1 la fw fr ew gp rm os ok 60 nw sp lf (hB) (⟨by decide, by decide⟩) (hG3) (by omega) (by omega) (by omega) (hne9)) (cwV 3 hts gX0_bestStepIn_X0_lowestBestStep rfl rfl rfl (by decide +kernel) ⟨Nat.le_of_ble_eq_true rfl, Nat.le_of_ble_eq_true rfl⟩) (pc_V (ci := 0) (q0 := 0) hK (hP.sub (ws' := [(oa, ob 0 [.ref op, .ref od, .ref ow, .ref ol, iv fw, iv fr, iv ew, iv gp, iv rm, iv os, iv ok, iv 60]), (op, ar cI 5 pr), (od, ar cI 5 sd), (ow, ar cI 3050 wo2_1), (ol, ar cI 6 la)]) [0, 1, 2, 3, 4] rfl) rfl rfl (pcP_S hE hK (hP.sub (ws' := [(oa, ob 0 [.ref op, .ref od, .ref ow, .ref ol, iv fw, iv fr, iv ew, iv gp, iv rm, iv os, iv ok, iv 60]), (op, ar cI 5 pr), (od, ar cI 5 sd), (ow, ar cI 3050 wo2_1), (ol, ar cI 6 la)]) [0, 1, 2, 3, 4] rfl))) rfl rfl hl.1 rfl (lv_room (Nat.le_of_ble_eq_true rfl)) dX0_bestStepIn_46 ⟨Nat.le_of_ble_eq_true rfl, Nat.le_of_ble_eq_true rfl⟩) ?_
          refine i_name (fun nx hnx => ?_)
          obtain ⟨i9, z1, z2, z3⟩ := pv_ex (ew - nw - 1).toNat (show sp < 5 by omega) (show pv pr sd gp rm 60 ((ew - nw - 1).toNat + 1) sp 0 lf ≠ -1 by rw [show (ew - nw - 1).toNat + 1 = (ew - nw).toNat by omega]; exact hne9)
          rw [show (ew - nw - 1).toNat + 1 = (ew - nw).toNat by omega] at z3
          have hnb : sp ≤ nx ∧ nx < 5 := by rw [hnx]; exact fnd_in _ z1 (by omega) z3 (by omega)
          refine lv_istore (lv' := [(6, iv nx), (0, .ref oa), (1, iv wk), (2, iv sp), (3, iv lf), (4, iv fe), (5, iv nw)]) hx hb dX0_bestStepIn_49 hl (by decide) rfl (fun ls hl => ?_)
          refine lv_iload hx hb dX0_bestStepIn_51 (lv_at hl 0 rfl) ?_
          refine lv_iload_n hx hb dX0_bestStepIn_53 rfl (lv_at hl 3 rfl) ?_
          refine i_icmp_le (tgt := 67) hx hb ⟨by omega, by omega⟩ ⟨by omega, by omega⟩ dX0_bestStepIn_54 (by decide) (fun c_5 => ?_) (fun c_5 => ?_)
          · skip
            have hsd1 := hsd nx (by omega) (by omega)
            have hpn : pst pr sd gp rm 60 (ew - fw).toNat os (fr - fw) ok (nw + 1 - fw).toNat = (nx, max 0 (fe - (nw + 1)), lf - min lf (sd nx)) := by
              rw [show (nw + 1 - fw).toNat = (nw - fw).toNat + 1 by omega]
              unfold pst
              rw [hps, hn1, show max 0 (fe - nw) = 0 by omega]
              simp only []
              rw [show (ew - nw).toNat - 1 = (ew - nw - 1).toNat by omega, ← hnx, if_neg (show ¬ sp < nx by omega), if_neg (show ¬ (0 : Int) < 0 by omega)]
              rw [show min (sd nx) lf = min lf (sd nx) by omega]
              exact congrArg (fun z : Int => (nx, z, lf - min lf (sd nx))) (show (0 : Int) = max 0 (fe - (nw + 1)) by omega)
            refine lv_iload hx hb dX0_bestStepIn_67 (lv_at hl 5 rfl) ?_
            refine lv_istore (lv' := [(4, iv fe), (6, iv nx), (0, .ref oa), (1, iv wk), (2, iv sp), (3, iv lf), (5, iv nw)]) hx hb dX0_bestStepIn_69 hl (by decide) rfl (fun ls hl => ?_)
            refine lv_iload hx hb dX0_bestStepIn_71 (lv_at hl 1 rfl) ?_
            refine lv_istore_n (lv' := [(2, iv nx), (4, iv fe), (6, iv nx), (0, .ref oa), (1, iv wk), (3, iv lf), (5, iv nw)]) hx hb dX0_bestStepIn_73 rfl hl (by decide) rfl (fun ls hl => ?_)
            refine lv_iload_n hx hb dX0_bestStepIn_74 rfl (lv_at hl 5 rfl) ?_
            refine lv_iload_n hx hb dX0_bestStepIn_75 rfl (lv_at hl 5 rfl) ?_
            refine lv_aload_n hx hb dX0_bestStepIn_76 rfl (lv_at hl 3 rfl) ?_
            refine va_get (D := D) (ci := 0) (v := .ref od) (C := RX0) (T := TX0) (N := 12) hx hb hts inX0 hown hK hP 0 rfl rfl 1 (by decide) w4 (fun _ h9 => h9) rfl dX0_bestStepIn_77 ?_
            refine lv_iload_n hx hb dX0_bestStepIn_80 rfl (lv_at hl 0 rfl) ?_
            refine i_iald hx hb hK hP 2 0 rfl rfl (by omega) (by omega) (by decide) dX0_bestStepIn_81 ?_
            refine i_min hx hb (hml.trans hl.1.symm) hown w5 w6 w7 w8 ⟨Nat.le_of_ble_eq_true rfl, Nat.le_of_ble_eq_true rfl, Nat.le_of_ble_eq_true rfl, Nat.le_of_ble_eq_true rfl⟩ (Nat.le_of_ble_eq_true rfl) ⟨by omega, by omega⟩ ⟨by omega, by omega⟩ dX0_bestStepIn_82 ?_
            refine i_isub hx hb dX0_bestStepIn_85 ?_
            refine lv_istore_n (lv' := [(3, iv (lf - (min lf (sd nx)))), (2, iv nx), (4, iv fe), (6, iv nx), (0, .ref oa), (1, iv wk), (5, iv nw)]) hx hb dX0_bestStepIn_86 rfl hl (by decide) rfl (fun ls hl => ?_)
            refine i_iinc (n := 1) (lv' := [(5, iv (nw + 1)), (3, iv (lf - (min lf (sd nx)))), (2, iv nx), (4, iv fe), (6, iv nx), (0, .ref oa), (1, iv wk)]) hx hb dX0_bestStepIn_87 hl (k := 6) rfl (by decide) rfl (fun ls hl => ?_)
            refine lv_goto (tgt := 28) hx hb dX0_bestStepIn_90 (by decide) ?_
            exact ih_28 (nw + 1) nx (lf - (min lf (sd nx))) fe (by omega) (by omega) (by omega) (by omega) (hpn) (by omega) ls (lv_sub hl [5, 6, 2, 1, 3, 0] rfl)
          · skip
            have hsd1 := hsd nx (by omega) (by omega)
            have hpn : pst pr sd gp rm 60 (ew - fw).toNat os (fr - fw) ok (nw + 1 - fw).toNat = (nx, max 0 (nw + gp - (nw + 1)), lf - min lf (sd nx)) := by
              rw [show (nw + 1 - fw).toNat = (nw - fw).toNat + 1 by omega]
              unfold pst
              rw [hps, hn1, show max 0 (fe - nw) = 0 by omega]
              simp only []
              rw [show (ew - nw).toNat - 1 = (ew - nw - 1).toNat by omega, ← hnx, if_pos (show sp < nx by omega)]
              rw [show min (sd nx) lf = min lf (sd nx) by omega]
              exact congrArg (fun z : Int => (nx, z, lf - min lf (sd nx))) (show gp - 1 = max 0 (nw + gp - (nw + 1)) by omega)
            refine lv_iload hx hb dX0_bestStepIn_57 (lv_at hl 6 rfl) ?_
            refine lv_aload_n hx hb dX0_bestStepIn_59 rfl (lv_at hl 1 rfl) ?_
            refine va_get (D := D) (ci := 0) (v := iv gp) (C := RX0) (T := TX0) (N := 12) hx hb hts inX0 hown hK hP 0 rfl rfl 7 (by decide) w9 (fun _ h9 => h9) rfl dX0_bestStepIn_60 ?_
            refine i_iadd hx hb dX0_bestStepIn_63 ?_
            refine lv_goto (tgt := 69) hx hb dX0_bestStepIn_64 (by decide) ?_
            refine lv_istore (lv' := [(4, iv (nw + gp)), (6, iv nx), (0, .ref oa), (1, iv wk), (2, iv sp), (3, iv lf), (5, iv nw)]) hx hb dX0_bestStepIn_69 hl (by decide) rfl (fun ls hl => ?_)
            refine lv_iload hx hb dX0_bestStepIn_71 (lv_at hl 1 rfl) ?_
            refine lv_istore_n (lv' := [(2, iv nx), (4, iv (nw + gp)), (6, iv nx), (0, .ref oa), (1, iv wk), (3, iv lf), (5, iv nw)]) hx hb dX0_bestStepIn_73 rfl hl (by decide) rfl (fun ls hl => ?_)
            refine lv_iload_n hx hb dX0_bestStepIn_74 rfl (lv_at hl 5 rfl) ?_
            refine lv_iload_n hx hb dX0_bestStepIn_75 rfl (lv_at hl 5 rfl) ?_
            refine lv_aload_n hx hb dX0_bestStepIn_76 rfl (lv_at hl 3 rfl) ?_
            refine va_get (D := D) (ci := 0) (v := .ref od) (C := RX0) (T := TX0) (N := 12) hx hb hts inX0 hown hK hP 0 rfl rfl 1 (by decide) w4 (fun _ h9 => h9) rfl dX0_bestStepIn_77 ?_
            refine lv_iload_n hx hb dX0_bestStepIn_80 rfl (lv_at hl 0 rfl) ?_
            refine i_iald hx hb hK hP 2 0 rfl rfl (by omega) (by omega) (by decide) dX0_bestStepIn_81 ?_
            refine i_min hx hb (hml.trans hl.1.symm) hown w5 w6 w7 w8 ⟨Nat.le_of_ble_eq_true rfl, Nat.le_of_ble_eq_true rfl, Nat.le_of_ble_eq_true rfl, Nat.le_of_ble_eq_true rfl⟩ (Nat.le_of_ble_eq_true rfl) ⟨by omega, by omega⟩ ⟨by omega, by omega⟩ dX0_bestStepIn_82 ?_
            refine i_isub hx hb dX0_bestStepIn_85 ?_
            refine lv_istore_n (lv' := [(3, iv (lf - (min lf (sd nx)))), (2, iv nx), (4, iv (nw + gp)), (6, iv nx), (0, .ref oa), (1, iv wk), (5, iv nw)]) hx hb dX0_bestStepIn_86 rfl hl (by decide) rfl (fun ls hl => ?_)
            refine i_iinc (n := 1) (lv' := [(5, iv (nw + 1)), (3, iv (lf - (min lf (sd nx)))), (2, iv nx), (4, iv (nw + gp)), (6, iv nx), (0, .ref oa), (1, iv wk)]) hx hb dX0_bestStepIn_87 hl (k := 6) rfl (by decide) rfl (fun ls hl => ?_)
            refine lv_goto (tgt := 28) hx hb dX0_bestStepIn_90 (by decide) ?_
            exact ih_28 (nw + 1) nx (lf - (min lf (sd nx))) (nw + gp) (by omega) (by omega) (by omega) (by omega) (hpn) (by omega) ls (lv_sub hl [5, 6, 2, 1, 3, 0] rfl)
  exact J_28 _ fw os ok fr (by omega) (by omega) (by omega) (by omega) (by rw [show (fw - fw).toNat = 0 by omega, show max 0 (fr - fw) = fr - fw by omega]; rfl) (Nat.lt_succ_self _) ls (lv_sub hl [4, 5, 3, 2, 1, 0] rfl)
