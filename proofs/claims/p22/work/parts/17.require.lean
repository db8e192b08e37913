abbrev rm_X3_requireWithin : Room := { frames := 6, cells := 1, slots := 6, locals := 90 }
set_option maxHeartbeats 4000000 in
set_option maxRecDepth 100000 in
/-- an argument is in its range -/
theorem mt_X3_requireWithin (l : Launch) (hst : l.stackTraces = false) (D : va_G) (cI cS cJ : ClassId) (v : Int) (lo : Int) (hi : Int) (bv : -2147483648 ≤ v ∧ v < 2147483648) (bl : -100000 ≤ lo ∧ lo < 100000) (bh : -100000 ≤ hi ∧ hi < 100000) : cT l yX3_requireWithin wsX3_requireWithin rm_X3_requireWithin [iv v, iv lo, iv hi] D (tyL cI cS cJ) [] (fun r_ => (lo ≤ v ∧ v ≤ hi) ∧ r_ = none) (fun E_ => E_ = xIA ∧ ¬ (lo ≤ v ∧ v ≤ hi)) 1 6 := by
  refine en_T (cc := cX3_requireWithin) (maxL := 3) (ret := none) (by decide) rfl (Nat.le_of_ble_eq_true rfl) ?_
  intro p e s m args below meth c ls hX hE hP hK hZ hnt hl Q hQ
  obtain ⟨hx, hb, hr, hml, hts, hown, hlocks, hnm⟩ := hX
  have hown : s.vm.findClass RX3 = some m.cls := hown
  have hl : lv_has ls 3 [(0, iv v), (1, iv lo), (2, iv hi)] := hl
  have w0 : (Cond.classLink RX3 105 xIA).before args s = true := hts _ (by decide +kernel)
  have w1 : (Cond.initialized xIA).before args s = true := hts _ (by decide +kernel)
  have hat109 : ∀ w ∈ (vx_atS RX3 109 xIA ["java/lang/RuntimeException", "java/lang/Exception"]).filter goodWord, w.before args s = true := fun w h => hts w (by revert w; decide +kernel)
  refine lv_iload_n hx hb dX3_requireWithin_0 rfl (lv_at hl 0 rfl) ?_
  refine lv_iload_n hx hb dX3_requireWithin_1 rfl (lv_at hl 1 rfl) ?_
  refine i_icmp_lt (tgt := 10) hx hb ⟨by omega, by omega⟩ ⟨by omega, by omega⟩ dX3_requireWithin_2 (by decide) (fun c_1 => ?_) (fun c_1 => ?_)
  · skip
    subst hQ
    exact r_thr (cls := xIA) (text := "out of range") (ik := 105) (is := 144) (ic := 109) hx hb hst hown (by first | exact Or.inl rfl | exact Or.inr rfl) hE w0 w1 (List.mem_of_getElem? (i := 0) rfl) hat109 (by decide +kernel) (by decide +kernel) hZ (hl.1.trans hml.symm) dX3_requireWithin_10 dX3_requireWithin_13 dX3_requireWithin_14 dX3_requireWithin_16 dX3_requireWithin_19 hnt ⟨Nat.le_of_ble_eq_true rfl, Nat.le_of_ble_eq_true rfl, Nat.le_of_ble_eq_true rfl, Nat.le_of_ble_eq_true rfl⟩ (Nat.le_of_ble_eq_true rfl) hlocks (by first | exact ⟨rfl, by omega⟩ | exact Or.inl ⟨rfl, by omega⟩ | exact Or.inr ⟨rfl, by omega⟩) (Nat.le_of_ble_eq_true rfl) (Nat.le_of_ble_eq_true rfl)
  · skip
    refine lv_iload_n hx hb dX3_requireWithin_5 rfl (lv_at hl 0 rfl) ?_
    refine lv_iload_n hx hb dX3_requireWithin_6 rfl (lv_at hl 2 rfl) ?_
    refine i_icmp_le (tgt := 20) hx hb ⟨by omega, by omega⟩ ⟨by omega, by omega⟩ dX3_requireWithin_7 (by decide) (fun c_2 => ?_) (fun c_2 => ?_)
    · skip
      subst hQ
      exact r_Tv hx hb hr hlocks dX3_requireWithin_20 (⟨(by first | assumption | omega), rfl⟩) (Nat.le_of_ble_eq_true rfl) (Nat.le_of_ble_eq_true rfl)
    · skip
      subst hQ
      exact r_thr (cls := xIA) (text := "out of range") (ik := 105) (is := 144) (ic := 109) hx hb hst hown (by first | exact Or.inl rfl | exact Or.inr rfl) hE w0 w1 (List.mem_of_getElem? (i := 0) rfl) hat109 (by decide +kernel) (by decide +kernel) hZ (hl.1.trans hml.symm) dX3_requireWithin_10 dX3_requireWithin_13 dX3_requireWithin_14 dX3_requireWithin_16 dX3_requireWithin_19 hnt ⟨Nat.le_of_ble_eq_true rfl, Nat.le_of_ble_eq_true rfl, Nat.le_of_ble_eq_true rfl, Nat.le_of_ble_eq_true rfl⟩ (Nat.le_of_ble_eq_true rfl) hlocks (by first | exact ⟨rfl, by omega⟩ | exact Or.inl ⟨rfl, by omega⟩ | exact Or.inr ⟨rfl, by omega⟩) (Nat.le_of_ble_eq_true rfl) (Nat.le_of_ble_eq_true rfl)

abbrev rm_X3_requireStep : Room := { frames := 7, cells := 1, slots := 6, locals := 112 }
set_option maxHeartbeats 4000000 in
set_option maxRecDepth 100000 in
theorem mt_X3_requireStep (l : Launch) (hst : l.stackTraces = false) (D : va_G) (cI cS cJ : ClassId) (v : Int) (bv : -2147483648 ≤ v ∧ v < 2147483648) : cT l yX3_requireStep wsX3_requireStep rm_X3_requireStep [iv v] D (tyL cI cS cJ) [] (fun r_ => (0 ≤ v ∧ v < 5) ∧ r_ = none) (fun E_ => E_ = xIA ∧ ¬ (0 ≤ v ∧ v < 5)) 1 6 := by
  refine en_T (cc := cX3_requireStep) (maxL := 1) (ret := none) (by decide) rfl (Nat.le_of_ble_eq_true rfl) ?_
  intro p e s m args below meth c ls hX hE hP hK hZ hnt hl Q hQ
  obtain ⟨hx, hb, hr, hml, hts, hown, hlocks, hnm⟩ := hX
  have hown : s.vm.findClass RX3 = some m.cls := hown
  have hl : lv_has ls 1 [(0, iv v)] := hl
  refine lv_iload_n hx hb dX3_requireStep_0 rfl (lv_at hl 0 rfl) ?_
  refine lv_iconst (v := zI 0) hx hb dX3_requireStep_1 rfl ?_
  refine lv_iconst (v := zI 4) hx hb dX3_requireStep_2 rfl ?_
  refine ms_T (vx_runS (As := [iv v, iv 0, iv 4]) (rest := []) ⟨hx, hb, hml, hown, hts⟩ (mt_X3_requireWithin l hst D cI cS cJ v 0 4 (by omega) (by omega) (by omega)) (va_cwS 3 hts gX3_requireStep_X3_requireWithin rfl rfl rfl (by decide +kernel) ⟨Nat.le_of_ble_eq_true rfl, Nat.le_of_ble_eq_true rfl⟩) (pcT_S hE hK (hP.sub (ws' := []) [] rfl) hZ) rfl rfl hl.1 rfl (lv_room (Nat.le_of_ble_eq_true rfl)) dX3_requireStep_3 ⟨Nat.le_of_ble_eq_true rfl, Nat.le_of_ble_eq_true rfl⟩) (fun E9 ce9 q9 H1 hTX hz9 hk9 hce hcv hcl => ?_) (fun r_ hq_ => ?_)
  · skip
    subst hQ
    exact r_out hnt hlocks (by first | exact hTX | exact ⟨hTX, by omega⟩ | exact Or.inl ⟨hTX, by omega⟩ | (obtain ⟨e9, h9⟩ := hTX; exact ⟨e9, by omega⟩) | (rcases hTX with ⟨e9, h9⟩ | ⟨e9, h9⟩ <;> first | exact Or.inl ⟨e9, by omega⟩ | exact Or.inr ⟨e9, by omega⟩) | (obtain ⟨e9, h9⟩ := hTX; first | exact Or.inl ⟨e9, by omega⟩ | exact Or.inr ⟨e9, by omega⟩)) hz9 hk9 hce hcv hcl (fun _ h => by cases h) (Nat.le_of_ble_eq_true rfl) (Nat.le_of_ble_eq_true rfl)
  obtain ⟨hf_1, rfl⟩ := hq_
  subst hQ
  exact r_Tv hx hb hr hlocks dX3_requireStep_6 (⟨(by first | assumption | omega), rfl⟩) (Nat.le_of_ble_eq_true rfl) (Nat.le_of_ble_eq_true rfl)

abbrev rm_X3_requireSize : Room := { frames := 7, cells := 1, slots := 6, locals := 112 }
set_option maxHeartbeats 4000000 in
set_option maxRecDepth 100000 in
theorem mt_X3_requireSize (l : Launch) (hst : l.stackTraces = false) (D : va_G) (cI cS cJ : ClassId) (v : Int) (bv : -2147483648 ≤ v ∧ v < 2147483648) : cT l yX3_requireSize wsX3_requireSize rm_X3_requireSize [iv v] D (tyL cI cS cJ) [] (fun r_ => (0 ≤ v ∧ v < 3) ∧ r_ = none) (fun E_ => E_ = xIA ∧ ¬ (0 ≤ v ∧ v < 3)) 1 6 := by
  refine en_T (cc := cX3_requireSize) (maxL := 1) (ret := none) (by decide) rfl (Nat.le_of_ble_eq_true rfl) ?_
  intro p e s m args below meth c ls hX hE hP hK hZ hnt hl Q hQ
  obtain ⟨hx, hb, hr, hml, hts, hown, hlocks, hnm⟩ := hX
  have hown : s.vm.findClass RX3 = some m.cls := hown
  have hl : lv_has ls 1 [(0, iv v)] := hl
  refine lv_iload_n hx hb dX3_requireSize_0 rfl (lv_at hl 0 rfl) ?_
  refine lv_iconst (v := zI 0) hx hb dX3_requireSize_1 rfl ?_
  refine lv_iconst (v := zI 2) hx hb dX3_requireSize_2 rfl ?_
  refine ms_T (vx_runS (As := [iv v, iv 0, iv 2]) (rest := []) ⟨hx, hb, hml, hown, hts⟩ (mt_X3_requireWithin l hst D cI cS cJ v 0 2 (by omega) (by omega) (by omega)) (va_cwS 3 hts gX3_requireSize_X3_requireWithin rfl rfl rfl (by decide +kernel) ⟨Nat.le_of_ble_eq_true rfl, Nat.le_of_ble_eq_true rfl⟩) (pcT_S hE hK (hP.sub (ws' := []) [] rfl) hZ) rfl rfl hl.1 rfl (lv_room (Nat.le_of_ble_eq_true rfl)) dX3_requireSize_3 ⟨Nat.le_of_ble_eq_true rfl, Nat.le_of_ble_eq_true rfl⟩) (fun E9 ce9 q9 H1 hTX hz9 hk9 hce hcv hcl => ?_) (fun r_ hq_ => ?_)
  · skip
    subst hQ
    exact r_out hnt hlocks (by first | exact hTX | exact ⟨hTX, by omega⟩ | exact Or.inl ⟨hTX, by omega⟩ | (obtain ⟨e9, h9⟩ := hTX; exact ⟨e9, by omega⟩) | (rcases hTX with ⟨e9, h9⟩ | ⟨e9, h9⟩ <;> first | exact Or.inl ⟨e9, by omega⟩ | exact Or.inr ⟨e9, by omega⟩) | (obtain ⟨e9, h9⟩ := hTX; first | exact Or.inl ⟨e9, by omega⟩ | exact Or.inr ⟨e9, by omega⟩)) hz9 hk9 hce hcv hcl (fun _ h => by cases h) (Nat.le_of_ble_eq_true rfl) (Nat.le_of_ble_eq_true rfl)
  obtain ⟨hf_1, rfl⟩ := hq_
  subst hQ
  exact r_Tv hx hb hr hlocks dX3_requireSize_6 (⟨(by first | assumption | omega), rfl⟩) (Nat.le_of_ble_eq_true rfl) (Nat.le_of_ble_eq_true rfl)

abbrev rm_X3_requireRoomFor : Room := { frames := 6, cells := 1, slots := 6, locals := 90 }
set_option maxHeartbeats 4000000 in
set_option maxRecDepth 100000 in
/-- there is room -/
theorem mt_X3_requireRoomFor (l : Launch) (hst : l.stackTraces = false) (D : va_G) (cI cS cJ : ClassId) (h : Nat) (hd : Nat) (hp : Nat) (d : Int → Int) (k : Int → Int) (st : Int) (md : Int) (ps : Int) (n : Int) (hk : Nn3 k) (hw : whl k ≤ 60) (hn : 1 ≤ n ∧ n ≤ 40) : cT l yX3_requireRoomFor wsX3_requireRoomFor rm_X3_requireRoomFor [.ref h, iv n] D (tyL cI cS cJ) [(h, ob 2 [.ref hd, .ref hp, iv st, iv md, iv ps]), (hd, ar cI 5 d), (hp, ar cI 3 k)] (fun r_ => (whl k + n ≤ 60) ∧ r_ = none) (fun E_ => E_ = xIS ∧ ¬ (whl k + n ≤ 60)) 1 6 := by
  refine en_T (cc := cX3_requireRoomFor) (maxL := 2) (ret := none) (by decide) rfl (Nat.le_of_ble_eq_true rfl) ?_
  intro p e s m args below meth c ls hX hE hP hK hZ hnt hl Q hQ
  obtain ⟨hx, hb, hr, hml, hts, hown, hlocks, hnm⟩ := hX
  have hown : s.vm.findClass RX3 = some m.cls := hown
  have hl : lv_has ls 2 [(0, .ref h), (1, iv n)] := hl
  have w0 : (Cond.initialized RX2).before args s = true := hts _ (by decide +kernel)
  have w1 : (Cond.instanceMethod yX2_wholeStock).before args s = true := hts _ (by decide +kernel)
  have w2 : (Cond.selects RX2 yX2_wholeStock yX2_wholeStock).before args s = true := hts _ (by decide +kernel)
  have w3 : (Cond.classLink RX3 51 xIS).before args s = true := hts _ (by decide +kernel)
  have w4 : (Cond.initialized xIS).before args s = true := hts _ (by decide +kernel)
  have hat55 : ∀ w ∈ (vx_atS RX3 55 xIS ["java/lang/RuntimeException", "java/lang/Exception"]).filter goodWord, w.before args s = true := fun w h => hts w (by revert w; decide +kernel)
  obtain ⟨hk0, hk1, hk2⟩ := id hk
  have hw0 : 0 ≤ whl k := by unfold whl; omega
  refine lv_aload_n hx hb dX3_requireRoomFor_0 rfl (lv_at hl 0 rfl) ?_
  refine ms_P (va_runVN (As := []) (rest := []) ⟨hx, hb, hml, hown, hts⟩ (mt_X2_wholeStock l D cI cS cJ h hd hp d k st md ps) ⟨va_cnB 0 hts gX3_requireRoomFor_X2_wholeStock_n146 rfl rfl rfl (hE.nw 25 rfl) w0 (by decide +kernel) ⟨Nat.le_of_ble_eq_true rfl, Nat.le_of_ble_eq_true rfl⟩, w1, w2⟩ (pc_V (ci := 2) (q0 := 0) hK (hP.sub (ws' := [(h, ob 2 [.ref hd, .ref hp, iv st, iv md, iv ps]), (hd, ar cI 5 d), (hp, ar cI 3 k)]) [0, 1, 2] rfl) rfl rfl (pcP_S hE hK (hP.sub (ws' := [(h, ob 2 [.ref hd, .ref hp, iv st, iv md, iv ps]), (hd, ar cI 5 d), (hp, ar cI 3 k)]) [0, 1, 2] rfl))) rfl rfl hl.1 rfl (lv_room (Nat.le_of_ble_eq_true rfl)) dX3_requireRoomFor_1 ⟨Nat.le_of_ble_eq_true rfl, Nat.le_of_ble_eq_true rfl⟩) ?_
  refine lv_iload_n hx hb dX3_requireRoomFor_4 rfl (lv_at hl 1 rfl) ?_
  refine i_iadd hx hb dX3_requireRoomFor_5 ?_
  refine lv_bipush (v := zI 60) hx hb dX3_requireRoomFor_6 (by decide) ?_
  refine i_icmp_le (tgt := 21) hx hb ⟨by omega, by omega⟩ ⟨by decide, by decide⟩ dX3_requireRoomFor_8 (by decide) (fun c_1 => ?_) (fun c_1 => ?_)
  · skip
    subst hQ
    exact r_Tv hx hb hr hlocks dX3_requireRoomFor_21 (⟨(by first | assumption | omega), rfl⟩) (Nat.le_of_ble_eq_true rfl) (Nat.le_of_ble_eq_true rfl)
  · skip
    subst hQ
    exact r_thr (cls := xIS) (text := "the store has no room for so many pieces") (ik := 51) (is := 149) (ic := 55) hx hb hst hown (by first | exact Or.inl rfl | exact Or.inr rfl) hE w3 w4 (List.mem_of_getElem? (i := 2) rfl) hat55 (by decide +kernel) (by decide +kernel) hZ (hl.1.trans hml.symm) dX3_requireRoomFor_11 dX3_requireRoomFor_14 dX3_requireRoomFor_15 dX3_requireRoomFor_17 dX3_requireRoomFor_20 hnt ⟨Nat.le_of_ble_eq_true rfl, Nat.le_of_ble_eq_true rfl, Nat.le_of_ble_eq_true rfl, Nat.le_of_ble_eq_true rfl⟩ (Nat.le_of_ble_eq_true rfl) hlocks (by first | exact ⟨rfl, by omega⟩ | exact Or.inl ⟨rfl, by omega⟩ | exact Or.inr ⟨rfl, by omega⟩) (Nat.le_of_ble_eq_true rfl) (Nat.le_of_ble_eq_true rfl)

abbrev rm_X3_requireSeasonOn : Room := { frames := 6, cells := 1, slots := 6, locals := 90 }
set_option maxHeartbeats 4000000 in
set_option maxRecDepth 100000 in
/-- the season is on -/
theorem mt_X3_requireSeasonOn (l : Launch) (hst : l.stackTraces = false) (D : va_G) (cI cS cJ : ClassId) (h0 : Nat) (sa : Nat) (qs : Nat) (pl : Nat) (sp : Nat) (wks : Int) (wk : Int) (gp : Int) (rm : Int) (mv : Int) (tk : Int) (hwk : 0 ≤ wk ∧ wk ≤ 100) (hwks : 0 ≤ wks ∧ wks ≤ 100) : cT l yX3_requireSeasonOn wsX3_requireSeasonOn rm_X3_requireSeasonOn [.ref h0] D (tyL cI cS cJ) [(h0, ob 3 [.ref sa, .ref qs, .ref pl]), (sa, ob 1 [.ref sp, iv wks, iv wk, iv gp, iv rm, iv mv, iv tk])] (fun r_ => (wk < wks) ∧ r_ = none) (fun E_ => E_ = xIS ∧ ¬ (wk < wks)) 1 6 := by
  refine en_T (cc := cX3_requireSeasonOn) (maxL := 1) (ret := none) (by decide) rfl (Nat.le_of_ble_eq_true rfl) ?_
  intro p e s m args below meth c ls hX hE hP hK hZ hnt hl Q hQ
  obtain ⟨hx, hb, hr, hml, hts, hown, hlocks, hnm⟩ := hX
  have hown : s.vm.findClass RX3 = some m.cls := hown
  have hl : lv_has ls 1 [(0, .ref h0)] := hl
  have inX1 : ∀ w ∈ u_ws RX1 TX1 7, w ∈ wsX3_requireSeasonOn := by decide +kernel
  have inX3 : ∀ w ∈ u_ws RX3 TX3 3, w ∈ wsX3_requireSeasonOn := by decide +kernel
  have w0 : (Cond.fieldLink RX3 12 RX3 "season" "LMarkdownPlanner$Season;").before args s = true := hts _ (by decide +kernel)
  have w1 : (Cond.classLink RX3 51 xIS).before args s = true := hts _ (by decide +kernel)
  have w2 : (Cond.initialized xIS).before args s = true := hts _ (by decide +kernel)
  have hat55 : ∀ w ∈ (vx_atS RX3 55 xIS ["java/lang/RuntimeException", "java/lang/Exception"]).filter goodWord, w.before args s = true := fun w h => hts w (by revert w; decide +kernel)
  refine lv_aload_n hx hb dX3_requireSeasonOn_0 rfl (lv_at hl 0 rfl) ?_
  refine va_get (D := D) (ci := 3) (v := .ref sa) (C := RX3) (T := TX3) (N := 3) hx hb hts inX3 hown hK hP 0 rfl rfl 0 (by decide) w0 (fun _ h9 => h9) rfl dX3_requireSeasonOn_1 ?_
  refine va_getN (D := D) (ci := 1) (v := iv wk) (C := RX1) (T := TX1) (N := 7) hx hb hts inX1 hown hK hP 1 rfl rfl 2 (by decide) (hE.at 4 rfl) (fun _ h9 => h9) rfl dX3_requireSeasonOn_4 ?_
  refine lv_aload_n hx hb dX3_requireSeasonOn_7 rfl (lv_at hl 0 rfl) ?_
  refine va_get (D := D) (ci := 3) (v := .ref sa) (C := RX3) (T := TX3) (N := 3) hx hb hts inX3 hown hK hP 0 rfl rfl 0 (by decide) w0 (fun _ h9 => h9) rfl dX3_requireSeasonOn_8 ?_
  refine va_getN (D := D) (ci := 1) (v := iv wks) (C := RX1) (T := TX1) (N := 7) hx hb hts inX1 hown hK hP 1 rfl rfl 1 (by decide) (hE.at 3 rfl) (fun _ h9 => h9) rfl dX3_requireSeasonOn_11 ?_
  refine i_icmp_lt (tgt := 27) hx hb ⟨by omega, by omega⟩ ⟨by omega, by omega⟩ dX3_requireSeasonOn_14 (by decide) (fun c_1 => ?_) (fun c_1 => ?_)
  · skip
    subst hQ
    exact r_Tv hx hb hr hlocks dX3_requireSeasonOn_27 (⟨(by first | assumption | omega), rfl⟩) (Nat.le_of_ble_eq_true rfl) (Nat.le_of_ble_eq_true rfl)
  · skip
    subst hQ
    exact r_thr (cls := xIS) (text := "the season is over") (ik := 51) (is := 151) (ic := 55) hx hb hst hown (by first | exact Or.inl rfl | exact Or.inr rfl) hE w1 w2 (List.mem_of_getElem? (i := 3) rfl) hat55 (by decide +kernel) (by decide +kernel) hZ (hl.1.trans hml.symm) dX3_requireSeasonOn_17 dX3_requireSeasonOn_20 dX3_requireSeasonOn_21 dX3_requireSeasonOn_23 dX3_requireSeasonOn_26 hnt ⟨Nat.le_of_ble_eq_true rfl, Nat.le_of_ble_eq_true rfl, Nat.le_of_ble_eq_true rfl, Nat.le_of_ble_eq_true rfl⟩ (Nat.le_of_ble_eq_true rfl) hlocks (by first | exact ⟨rfl, by omega⟩ | exact Or.inl ⟨rfl, by omega⟩ | exact Or.inr ⟨rfl, by omega⟩) (Nat.le_of_ble_eq_true rfl) (Nat.le_of_ble_eq_true rfl)

abbrev rm_X3_storeOf_0 : Room := { frames := 7, cells := 1, slots := 6, locals := 112 }
set_option maxHeartbeats 4000000 in
set_option maxRecDepth 100000 in
/-- the store 0 -/
theorem mt_X3_storeOf_0 (l : Launch) (hst : l.stackTraces = false) (D : va_G) (cI cS cJ : ClassId) (a : Nat → Nat) (h0 : Nat) (sa : Nat) (qs : Nat) (pl : Nat)  : cT l yX3_storeOf wsX3_storeOf rm_X3_storeOf_0 [.ref h0, iv 0] D (tyL cI cS cJ) [(h0, ob 3 [.ref sa, .ref qs, .ref pl]), (qs, .inl (cS, 3, .inr (.inr (.inr (.inr (fun j => some (a (9 + j))))))))] (fun r_ => r_ = some (.ref (a 9))) (fun E_ => False) 1 6 := by
  refine en_T (cc := cX3_storeOf) (maxL := 2) (ret := (some (.object "MarkdownPlanner$Store"))) (by decide) rfl (Nat.le_of_ble_eq_true rfl) ?_
  intro p e s m args below meth c ls hX hE hP hK hZ hnt hl Q hQ
  obtain ⟨hx, hb, hr, hml, hts, hown, hlocks, hnm⟩ := hX
  have hown : s.vm.findClass RX3 = some m.cls := hown
  have hl : lv_has ls 2 [(0, .ref h0), (1, iv 0)] := hl
  have inX3 : ∀ w ∈ u_ws RX3 TX3 3, w ∈ wsX3_storeOf := by decide +kernel
  have w0 : (Cond.fieldLink RX3 18 RX3 "stores" "[LMarkdownPlanner$Store;").before args s = true := hts _ (by decide +kernel)
  refine lv_iload_n hx hb dX3_storeOf_0 rfl (lv_at hl 1 rfl) ?_
  refine lv_iconst (v := zI 0) hx hb dX3_storeOf_1 rfl ?_
  refine lv_iconst (v := zI 2) hx hb dX3_storeOf_2 rfl ?_
  refine ms_T (vx_runS (As := [iv 0, iv 0, iv 2]) (rest := []) ⟨hx, hb, hml, hown, hts⟩ (mt_X3_requireWithin l hst D cI cS cJ 0 0 2 (by omega) (by omega) (by omega)) (va_cwS 3 hts gX3_storeOf_X3_requireWithin rfl rfl rfl (by decide +kernel) ⟨Nat.le_of_ble_eq_true rfl, Nat.le_of_ble_eq_true rfl⟩) (pcT_S hE hK (hP.sub (ws' := []) [] rfl) hZ) rfl rfl hl.1 rfl (lv_room (Nat.le_of_ble_eq_true rfl)) dX3_storeOf_3 ⟨Nat.le_of_ble_eq_true rfl, Nat.le_of_ble_eq_true rfl⟩) (fun E9 ce9 q9 H1 hTX hz9 hk9 hce hcv hcl => ?_) (fun r_ hq_ => ?_)
  · skip
    subst hQ
    exact r_out hnt hlocks (absurd hTX.2 (by omega)) hz9 hk9 hce hcv hcl (fun _ h => by cases h) (Nat.le_of_ble_eq_true rfl) (Nat.le_of_ble_eq_true rfl)
  obtain ⟨hf_1, rfl⟩ := hq_
  refine lv_aload_n hx hb dX3_storeOf_6 rfl (lv_at hl 0 rfl) ?_
  refine va_get (D := D) (ci := 3) (v := .ref qs) (C := RX3) (T := TX3) (N := 3) hx hb hts inX3 hown hK hP 0 rfl rfl 1 (by decide) w0 (fun _ h9 => h9) rfl dX3_storeOf_7 ?_
  refine lv_iload_n hx hb dX3_storeOf_10 rfl (lv_at hl 1 rfl) ?_
  refine va_aldq hx hb hK hP 1 1 rfl rfl (zI_in (by decide) (by decide) (by decide)) dX3_storeOf_11 ?_
  refine i_eqv (y := .ref (a 9)) (by rw [zI_cl (a := 0) (by decide) (by decide)]; rfl) ?_
  subst hQ
  exact r_Ta hx hb hr hlocks dX3_storeOf_12 (rfl) (Nat.le_of_ble_eq_true rfl) (Nat.le_of_ble_eq_true rfl)

abbrev rm_X3_storeOf_1 : Room := { frames := 7, cells := 1, slots := 6, locals := 112 }
set_option maxHeartbeats 4000000 in
set_option maxRecDepth 100000 in
/-- the store 1 -/
theorem mt_X3_storeOf_1 (l : Launch) (hst : l.stackTraces = false) (D : va_G) (cI cS cJ : ClassId) (a : Nat → Nat) (h0 : Nat) (sa : Nat) (qs : Nat) (pl : Nat)  : cT l yX3_storeOf wsX3_storeOf rm_X3_storeOf_1 [.ref h0, iv 1] D (tyL cI cS cJ) [(h0, ob 3 [.ref sa, .ref qs, .ref pl]), (qs, .inl (cS, 3, .inr (.inr (.inr (.inr (fun j => some (a (9 + j))))))))] (fun r_ => r_ = some (.ref (a 10))) (fun E_ => False) 1 6 := by
  refine en_T (cc := cX3_storeOf) (maxL := 2) (ret := (some (.object "MarkdownPlanner$Store"))) (by decide) rfl (Nat.le_of_ble_eq_true rfl) ?_
  intro p e s m args below meth c ls hX hE hP hK hZ hnt hl Q hQ
  obtain ⟨hx, hb, hr, hml, hts, hown, hlocks, hnm⟩ := hX
  have hown : s.vm.findClass RX3 = some m.cls := hown
  have hl : lv_has ls 2 [(0, .ref h0), (1, iv 1)] := hl
  have inX3 : ∀ w ∈ u_ws RX3 TX3 3, w ∈ wsX3_storeOf := by decide +kernel
  have w0 : (Cond.fieldLink RX3 18 RX3 "stores" "[LMarkdownPlanner$Store;").before args s = true := hts _ (by decide +kernel)
  refine lv_iload_n hx hb dX3_storeOf_0 rfl (lv_at hl 1 rfl) ?_
  refine lv_iconst (v := zI 0) hx hb dX3_storeOf_1 rfl ?_
  refine lv_iconst (v := zI 2) hx hb dX3_storeOf_2 rfl ?_
  refine ms_T (vx_runS (As := [iv 1, iv 0, iv 2]) (rest := []) ⟨hx, hb, hml, hown, hts⟩ (mt_X3_requireWithin l hst D cI cS cJ 1 0 2 (by omega) (by omega) (by omega)) (va_cwS 3 hts gX3_storeOf_X3_requireWithin rfl rfl rfl (by decide +kernel) ⟨Nat.le_of_ble_eq_true rfl, Nat.le_of_ble_eq_true rfl⟩) (pcT_S hE hK (hP.sub (ws' := []) [] rfl) hZ) rfl rfl hl.1 rfl (lv_room (Nat.le_of_ble_eq_true rfl)) dX3_storeOf_3 ⟨Nat.le_of_ble_eq_true rfl, Nat.le_of_ble_eq_true rfl⟩) (fun E9 ce9 q9 H1 hTX hz9 hk9 hce hcv hcl => ?_) (fun r_ hq_ => ?_)
  · skip
    subst hQ
    exact r_out hnt hlocks (absurd hTX.2 (by omega)) hz9 hk9 hce hcv hcl (fun _ h => by cases h) (Nat.le_of_ble_eq_true rfl) (Nat.le_of_ble_eq_true rfl)
  obtain ⟨hf_1, rfl⟩ := hq_
  refine lv_aload_n hx hb dX3_storeOf_6 rfl (lv_at hl 0 rfl) ?_
  refine va_get (D := D) (ci := 3) (v := .ref qs) (C := RX3) (T := TX3) (N := 3) hx hb hts inX3 hown hK hP 0 rfl rfl 1 (by decide) w0 (fun _ h9 => h9) rfl dX3_storeOf_7 ?_
  refine lv_iload_n hx hb dX3_storeOf_10 rfl (lv_at hl 1 rfl) ?_
  refine va_aldq hx hb hK hP 1 1 rfl rfl (zI_in (by decide) (by decide) (by decide)) dX3_storeOf_11 ?_
  refine i_eqv (y := .ref (a 10)) (by rw [zI_cl (a := 1) (by decide) (by decide)]; rfl) ?_
  subst hQ
  exact r_Ta hx hb hr hlocks dX3_storeOf_12 (rfl) (Nat.le_of_ble_eq_true rfl) (Nat.le_of_ble_eq_true rfl)

abbrev rm_X3_storeOf_2 : Room := { frames := 7, cells := 1, slots := 6, locals := 112 }
set_option maxHeartbeats 4000000 in
set_option maxRecDepth 100000 in
/-- the store 2 -/
theorem mt_X3_storeOf_2 (l : Launch) (hst : l.stackTraces = false) (D : va_G) (cI cS cJ : ClassId) (a : Nat → Nat) (h0 : Nat) (sa : Nat) (qs : Nat) (pl : Nat)  : cT l yX3_storeOf wsX3_storeOf rm_X3_storeOf_2 [.ref h0, iv 2] D (tyL cI cS cJ) [(h0, ob 3 [.ref sa, .ref qs, .ref pl]), (qs, .inl (cS, 3, .inr (.inr (.inr (.inr (fun j => some (a (9 + j))))))))] (fun r_ => r_ = some (.ref (a 11))) (fun E_ => False) 1 6 := by
  refine en_T (cc := cX3_storeOf) (maxL := 2) (ret := (some (.object "MarkdownPlanner$Store"))) (by decide) rfl (Nat.le_of_ble_eq_true rfl) ?_
  intro p e s m args below meth c ls hX hE hP hK hZ hnt hl Q hQ
  obtain ⟨hx, hb, hr, hml, hts, hown, hlocks, hnm⟩ := hX
  have hown : s.vm.findClass RX3 = some m.cls := hown
  have hl : lv_has ls 2 [(0, .ref h0), (1, iv 2)] := hl
  have inX3 : ∀ w ∈ u_ws RX3 TX3 3, w ∈ wsX3_storeOf := by decide +kernel
  have w0 : (Cond.fieldLink RX3 18 RX3 "stores" "[LMarkdownPlanner$Store;").before args s = true := hts _ (by decide +kernel)
  refine lv_iload_n hx hb dX3_storeOf_0 rfl (lv_at hl 1 rfl) ?_
  refine lv_iconst (v := zI 0) hx hb dX3_storeOf_1 rfl ?_
  refine lv_iconst (v := zI 2) hx hb dX3_storeOf_2 rfl ?_
  refine ms_T (vx_runS (As := [iv 2, iv 0, iv 2]) (rest := []) ⟨hx, hb, hml, hown, hts⟩ (mt_X3_requireWithin l hst D cI cS cJ 2 0 2 (by omega) (by omega) (by omega)) (va_cwS 3 hts gX3_storeOf_X3_requireWithin rfl rfl rfl (by decide +kernel) ⟨Nat.le_of_ble_eq_true rfl, Nat.le_of_ble_eq_true rfl⟩) (pcT_S hE hK (hP.sub (ws' := []) [] rfl) hZ) rfl rfl hl.1 rfl (lv_room (Nat.le_of_ble_eq_true rfl)) dX3_storeOf_3 ⟨Nat.le_of_ble_eq_true rfl, Nat.le_of_ble_eq_true rfl⟩) (fun E9 ce9 q9 H1 hTX hz9 hk9 hce hcv hcl => ?_) (fun r_ hq_ => ?_)
  · skip
    subst hQ
    exact r_out hnt hlocks (absurd hTX.2 (by omega)) hz9 hk9 hce hcv hcl (fun _ h => by cases h) (Nat.le_of_ble_eq_true rfl) (Nat.le_of_ble_eq_true rfl)
  obtain ⟨hf_1, rfl⟩ := hq_
  refine lv_aload_n hx hb dX3_storeOf_6 rfl (lv_at hl 0 rfl) ?_
  refine va_get (D := D) (ci := 3) (v := .ref qs) (C := RX3) (T := TX3) (N := 3) hx hb hts inX3 hown hK hP 0 rfl rfl 1 (by decide) w0 (fun _ h9 => h9) rfl dX3_storeOf_7 ?_
  refine lv_iload_n hx hb dX3_storeOf_10 rfl (lv_at hl 1 rfl) ?_
  refine va_aldq hx hb hK hP 1 1 rfl rfl (zI_in (by decide) (by decide) (by decide)) dX3_storeOf_11 ?_
  refine i_eqv (y := .ref (a 11)) (by rw [zI_cl (a := 2) (by decide) (by decide)]; rfl) ?_
  subst hQ
  exact r_Ta hx hb hr hlocks dX3_storeOf_12 (rfl) (Nat.le_of_ble_eq_true rfl) (Nat.le_of_ble_eq_true rfl)

abbrev rm_X3_storeOf_out : Room := { frames := 7, cells := 1, slots := 6, locals := 112 }
set_option maxHeartbeats 4000000 in
set_option maxRecDepth 100000 in
/-- no such store -/
theorem mt_X3_storeOf_out (l : Launch) (hst : l.stackTraces = false) (D : va_G) (cI cS cJ : ClassId) (a : Nat → Nat) (h0 : Nat) (sa : Nat) (qs : Nat) (pl : Nat) (v : Int) (bv : -2147483648 ≤ v ∧ v < 2147483648) (hno : ¬ (0 ≤ v ∧ v < 3)) : cT l yX3_storeOf wsX3_storeOf rm_X3_storeOf_out [.ref h0, iv v] D (tyL cI cS cJ) [(h0, ob 3 [.ref sa, .ref qs, .ref pl]), (qs, .inl (cS, 3, .inr (.inr (.inr (.inr (fun j => some (a (9 + j))))))))] (fun r_ => (False) ∧ r_ = none) (fun E_ => E_ = xIA) 1 6 := by
  refine en_T (cc := cX3_storeOf) (maxL := 2) (ret := (some (.object "MarkdownPlanner$Store"))) (by decide) rfl (Nat.le_of_ble_eq_true rfl) ?_
  intro p e s m args below meth c ls hX hE hP hK hZ hnt hl Q hQ
  obtain ⟨hx, hb, hr, hml, hts, hown, hlocks, hnm⟩ := hX
  have hown : s.vm.findClass RX3 = some m.cls := hown
  have hl : lv_has ls 2 [(0, .ref h0), (1, iv v)] := hl
  refine lv_iload_n hx hb dX3_storeOf_0 rfl (lv_at hl 1 rfl) ?_
  refine lv_iconst (v := zI 0) hx hb dX3_storeOf_1 rfl ?_
  refine lv_iconst (v := zI 2) hx hb dX3_storeOf_2 rfl ?_
  refine ms_T (vx_runS (As := [iv v, iv 0, iv 2]) (rest := []) ⟨hx, hb, hml, hown, hts⟩ (mt_X3_requireWithin l hst D cI cS cJ v 0 2 (by omega) (by omega) (by omega)) (va_cwS 3 hts gX3_storeOf_X3_requireWithin rfl rfl rfl (by decide +kernel) ⟨Nat.le_of_ble_eq_true rfl, Nat.le_of_ble_eq_true rfl⟩) (pcT_S hE hK (hP.sub (ws' := []) [] rfl) hZ) rfl rfl hl.1 rfl (lv_room (Nat.le_of_ble_eq_true rfl)) dX3_storeOf_3 ⟨Nat.le_of_ble_eq_true rfl, Nat.le_of_ble_eq_true rfl⟩) (fun E9 ce9 q9 H1 hTX hz9 hk9 hce hcv hcl => ?_) (fun r_ hq_ => ?_)
  · skip
    subst hQ
    exact r_out hnt hlocks (hTX.1) hz9 hk9 hce hcv hcl (fun _ h => by cases h) (Nat.le_of_ble_eq_true rfl) (Nat.le_of_ble_eq_true rfl)
  obtain ⟨hf_1, rfl⟩ := hq_
  exact absurd (show 0 ≤ v ∧ v < 3 by omega) hno
