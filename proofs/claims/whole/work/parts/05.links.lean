theorem w_X0 : ∀ w ∈ u_ws RX0 TX0 5, w ∈ gW0 := by
  intro w h
  exact gw_in ((by decide +kernel : ∀ w ∈ u_ws RX0 TX0 5, w ∈ lw_tbl) w h) ((by decide +kernel : ∀ w ∈ u_ws RX0 TX0 5, goodWord w = true) w h)
theorem w_X2 : ∀ w ∈ u_ws RX2 TX2 4, w ∈ gW0 := by
  intro w h
  exact gw_in ((by decide +kernel : ∀ w ∈ u_ws RX2 TX2 4, w ∈ lw_tbl) w h) ((by decide +kernel : ∀ w ∈ u_ws RX2 TX2 4, goodWord w = true) w h)
theorem w_X3 : ∀ w ∈ u_ws RX3 TX3 3, w ∈ gW0 := by
  intro w h
  exact gw_in ((by decide +kernel : ∀ w ∈ u_ws RX3 TX3 3, w ∈ lw_tbl) w h) ((by decide +kernel : ∀ w ∈ u_ws RX3 TX3 3, goodWord w = true) w h)
theorem w_X4 : ∀ w ∈ u_ws RX4 TX4 2, w ∈ gW0 := by
  intro w h
  exact gw_in ((by decide +kernel : ∀ w ∈ u_ws RX4 TX4 2, w ∈ lw_tbl) w h) ((by decide +kernel : ∀ w ∈ u_ws RX4 TX4 2, goodWord w = true) w h)
theorem w_X5 : ∀ w ∈ u_ws RX5 TX5 3, w ∈ gW0 := by
  intro w h
  exact gw_in ((by decide +kernel : ∀ w ∈ u_ws RX5 TX5 3, w ∈ lw_tbl) w h) ((by decide +kernel : ∀ w ∈ u_ws RX5 TX5 3, goodWord w = true) w h)
theorem w_X6 : ∀ w ∈ u_ws RX6 TX6 5, w ∈ gW0 := by
  intro w h
  exact gw_in ((by decide +kernel : ∀ w ∈ u_ws RX6 TX6 5, w ∈ lw_tbl) w h) ((by decide +kernel : ∀ w ∈ u_ws RX6 TX6 5, goodWord w = true) w h)
theorem w_X7 : ∀ w ∈ u_ws RX7 TX7 8, w ∈ gW0 := by
  intro w h
  exact gw_in ((by decide +kernel : ∀ w ∈ u_ws RX7 TX7 8, w ∈ lw_tbl) w h) ((by decide +kernel : ∀ w ∈ u_ws RX7 TX7 8, goodWord w = true) w h)
theorem w_X8 : ∀ w ∈ u_ws RX8 TX8 3, w ∈ gW0 := by
  intro w h
  exact gw_in ((by decide +kernel : ∀ w ∈ u_ws RX8 TX8 3, w ∈ lw_tbl) w h) ((by decide +kernel : ∀ w ∈ u_ws RX8 TX8 3, goodWord w = true) w h)
theorem w_X9 : ∀ w ∈ u_ws RX9 TX9 5, w ∈ gW0 := by
  intro w h
  exact gw_in ((by decide +kernel : ∀ w ∈ u_ws RX9 TX9 5, w ∈ lw_tbl) w h) ((by decide +kernel : ∀ w ∈ u_ws RX9 TX9 5, goodWord w = true) w h)
theorem w_X10 : ∀ w ∈ u_ws RX10 TX10 4, w ∈ gW0 := by
  intro w h
  exact gw_in ((by decide +kernel : ∀ w ∈ u_ws RX10 TX10 4, w ∈ lw_tbl) w h) ((by decide +kernel : ∀ w ∈ u_ws RX10 TX10 4, goodWord w = true) w h)
theorem w_X11 : ∀ w ∈ u_ws RX11 TX11 5, w ∈ gW0 := by
  intro w h
  exact gw_in ((by decide +kernel : ∀ w ∈ u_ws RX11 TX11 5, w ∈ lw_tbl) w h) ((by decide +kernel : ∀ w ∈ u_ws RX11 TX11 5, goodWord w = true) w h)
theorem w_X12 : ∀ w ∈ u_ws RX12 TX12 12, w ∈ gW0 := by
  intro w h
  exact gw_in ((by decide +kernel : ∀ w ∈ u_ws RX12 TX12 12, w ∈ lw_tbl) w h) ((by decide +kernel : ∀ w ∈ u_ws RX12 TX12 12, goodWord w = true) w h)
theorem kL_7 : Cond.classLink RL 7 RX11 ∈ gW0 := gw_in (List.mem_of_getElem? (i := 71) (by decide +kernel)) rfl
theorem nL_7 : gCls RL 7 10 5 [.null, .null, .null, .null, .int 0] := ⟨RX11, TX11, tyX11, rfl, w_X11, tyX11_ok, kL_7, gw_in (List.mem_of_getElem? (i := 72) (by decide +kernel)) rfl, gw_in (List.mem_of_getElem? (i := 54) (by decide +kernel)) rfl, fun j hj => by rcases (show j = 0 ∨ j = 1 ∨ j = 2 ∨ j = 3 ∨ j = 4 by omega) with rfl | rfl | rfl | rfl | rfl <;> rfl⟩
theorem lL_9 : Cond.methodLink RL 9 yX11_init ∈ gW0 := gw_in (List.mem_of_getElem? (i := 73) (by decide +kernel)) rfl
theorem i_X11_init : Cond.instanceMethod yX11_init ∈ gW0 := gw_in (List.mem_of_getElem? (i := 74) (by decide +kernel)) rfl
theorem oX11_3 : Cond.methodLink RX11 3 objectInit ∈ gW0 := gw_in (List.mem_of_getElem? (i := 76) (by decide +kernel)) rfl
theorem kX11_9 : Cond.classLink RX11 9 RX10 ∈ gW0 := gw_in (List.mem_of_getElem? (i := 79) (by decide +kernel)) rfl
theorem nX11_9 : gCls RX11 9 9 4 [.null, .int 0, .int 0, .int 0] := ⟨RX10, TX10, tyX10, rfl, w_X10, tyX10_ok, kX11_9, gw_in (List.mem_of_getElem? (i := 80) (by decide +kernel)) rfl, gw_in (List.mem_of_getElem? (i := 55) (by decide +kernel)) rfl, fun j hj => by rcases (show j = 0 ∨ j = 1 ∨ j = 2 ∨ j = 3 by omega) with rfl | rfl | rfl | rfl <;> rfl⟩
theorem lX11_11 : Cond.methodLinkNest RX11 11 yX10_init RX11 ∈ gNest := by decide +kernel
theorem i_X10_init : Cond.instanceMethod yX10_init ∈ gW0 := gw_in (List.mem_of_getElem? (i := 82) (by decide +kernel)) rfl
theorem oX10_3 : Cond.methodLink RX10 3 objectInit ∈ gW0 := gw_in (List.mem_of_getElem? (i := 84) (by decide +kernel)) rfl
theorem fX10_11 : gFld RX10 11 9 0 (.array .int) true := ⟨RX10, TX10, 4, tyX10, rfl, w_X10, tyX10_ok, nmX10, by decide, gw_in (List.mem_of_getElem? (i := 85) (by decide +kernel)) rfl, rfl, rfl, rfl⟩
theorem fX10_15 : gFld RX10 15 9 1 .int false := ⟨RX10, TX10, 4, tyX10, rfl, w_X10, tyX10_ok, nmX10, by decide, gw_in (List.mem_of_getElem? (i := 86) (by decide +kernel)) rfl, rfl, rfl, rfl⟩
theorem fX11_68 : gFld RX11 68 9 1 .int false := ⟨RX10, TX10, 4, tyX10, rfl, w_X10, tyX10_ok, nmX10, by decide, gw_in (List.mem_of_getElem? (i := 87) (by decide +kernel)) rfl, rfl, rfl, rfl⟩
theorem fX10_19 : gFld RX10 19 9 2 .int false := ⟨RX10, TX10, 4, tyX10, rfl, w_X10, tyX10_ok, nmX10, by decide, gw_in (List.mem_of_getElem? (i := 88) (by decide +kernel)) rfl, rfl, rfl, rfl⟩
theorem fX11_114 : gFld RX11 114 9 2 .int false := ⟨RX10, TX10, 4, tyX10, rfl, w_X10, tyX10_ok, nmX10, by decide, gw_in (List.mem_of_getElem? (i := 89) (by decide +kernel)) rfl, rfl, rfl, rfl⟩
theorem fX10_22 : gFld RX10 22 9 3 .boolean false := ⟨RX10, TX10, 4, tyX10, rfl, w_X10, tyX10_ok, nmX10, by decide, gw_in (List.mem_of_getElem? (i := 90) (by decide +kernel)) rfl, rfl, rfl, rfl⟩
theorem fX11_110 : gFld RX11 110 9 3 .boolean false := ⟨RX10, TX10, 4, tyX10, rfl, w_X10, tyX10_ok, nmX10, by decide, gw_in (List.mem_of_getElem? (i := 91) (by decide +kernel)) rfl, rfl, rfl, rfl⟩
theorem kX11_16 : Cond.classLink RX11 16 RX9 ∈ gW0 := gw_in (List.mem_of_getElem? (i := 102) (by decide +kernel)) rfl
theorem nX11_16 : gCls RX11 16 8 5 [.int 0, .null, .null, .null, .null] := ⟨RX9, TX9, tyX9, rfl, w_X9, tyX9_ok, kX11_16, gw_in (List.mem_of_getElem? (i := 103) (by decide +kernel)) rfl, gw_in (List.mem_of_getElem? (i := 56) (by decide +kernel)) rfl, fun j hj => by rcases (show j = 0 ∨ j = 1 ∨ j = 2 ∨ j = 3 ∨ j = 4 by omega) with rfl | rfl | rfl | rfl | rfl <;> rfl⟩
theorem lX11_18 : Cond.methodLinkNest RX11 18 yX9_init RX11 ∈ gNest := by decide +kernel
theorem i_X9_init : Cond.instanceMethod yX9_init ∈ gW0 := gw_in (List.mem_of_getElem? (i := 105) (by decide +kernel)) rfl
theorem oX9_3 : Cond.methodLink RX9 3 objectInit ∈ gW0 := gw_in (List.mem_of_getElem? (i := 107) (by decide +kernel)) rfl
theorem kX9_9 : Cond.classLink RX9 9 RX7 ∈ gW0 := gw_in (List.mem_of_getElem? (i := 108) (by decide +kernel)) rfl
theorem nX9_9 : gCls RX9 9 6 8 [.null, .null, .null, .null, .null, .null, .null, .null] := ⟨RX7, TX7, tyX7, rfl, w_X7, tyX7_ok, kX9_9, gw_in (List.mem_of_getElem? (i := 109) (by decide +kernel)) rfl, gw_in (List.mem_of_getElem? (i := 57) (by decide +kernel)) rfl, fun j hj => by rcases (show j = 0 ∨ j = 1 ∨ j = 2 ∨ j = 3 ∨ j = 4 ∨ j = 5 ∨ j = 6 ∨ j = 7 by omega) with rfl | rfl | rfl | rfl | rfl | rfl | rfl | rfl <;> rfl⟩
theorem lX9_11 : Cond.methodLink RX9 11 yX7_init ∈ gW0 := gw_in (List.mem_of_getElem? (i := 110) (by decide +kernel)) rfl
theorem i_X7_init : Cond.instanceMethod yX7_init ∈ gW0 := gw_in (List.mem_of_getElem? (i := 111) (by decide +kernel)) rfl
theorem oX7_3 : Cond.methodLink RX7 3 objectInit ∈ gW0 := gw_in (List.mem_of_getElem? (i := 113) (by decide +kernel)) rfl
theorem kX7_22 : Cond.classLink RX7 22 RX6 ∈ gW0 := gw_in (List.mem_of_getElem? (i := 114) (by decide +kernel)) rfl
theorem nX7_22 : gCls RX7 22 5 5 [.null, .int 0, .int 0, .int 0, .int 0] := ⟨RX6, TX6, tyX6, rfl, w_X6, tyX6_ok, kX7_22, gw_in (List.mem_of_getElem? (i := 392) (by decide +kernel)) rfl, gw_in (List.mem_of_getElem? (i := 64) (by decide +kernel)) rfl, fun j hj => by rcases (show j = 0 ∨ j = 1 ∨ j = 2 ∨ j = 3 ∨ j = 4 by omega) with rfl | rfl | rfl | rfl | rfl <;> rfl⟩
theorem kX7_28 : Cond.classLink RX7 28 RX8 ∈ gW0 := gw_in (List.mem_of_getElem? (i := 116) (by decide +kernel)) rfl
theorem nX7_28 : gCls RX7 28 7 3 [.null, .int 0, .int 0] := ⟨RX8, TX8, tyX8, rfl, w_X8, tyX8_ok, kX7_28, gw_in (List.mem_of_getElem? (i := 428) (by decide +kernel)) rfl, gw_in (List.mem_of_getElem? (i := 65) (by decide +kernel)) rfl, fun j hj => by rcases (show j = 0 ∨ j = 1 ∨ j = 2 by omega) with rfl | rfl | rfl <;> rfl⟩
theorem kX7_34 : Cond.classLink RX7 34 RX3 ∈ gW0 := gw_in (List.mem_of_getElem? (i := 118) (by decide +kernel)) rfl
theorem nX7_34 : gCls RX7 34 2 3 [.null, .null, .int 0] := ⟨RX3, TX3, tyX3, rfl, w_X3, tyX3_ok, kX7_34, gw_in (List.mem_of_getElem? (i := 449) (by decide +kernel)) rfl, gw_in (List.mem_of_getElem? (i := 66) (by decide +kernel)) rfl, fun j hj => by rcases (show j = 0 ∨ j = 1 ∨ j = 2 by omega) with rfl | rfl | rfl <;> rfl⟩
theorem lX7_47 : Cond.methodLink RX7 47 yX7_sortLabels ∈ gW0 := gw_in (List.mem_of_getElem? (i := 120) (by decide +kernel)) rfl
theorem i_X7_sortLabels : Cond.instanceMethod yX7_sortLabels ∈ gW0 := gw_in (List.mem_of_getElem? (i := 122) (by decide +kernel)) rfl
theorem gX7_56 : Cond.fieldLinkNest RX7 56 RX11 (gSt 0).1 "[I" RX11 ∈ gNest := by decide +kernel
theorem cX7_59 : Cond.constantLong RX7 59 (281543712968705) ∈ gW0 := gw_in (List.mem_of_getElem? (i := 126) (by decide +kernel)) rfl
theorem cX7_65 : Cond.constantLong RX7 65 (4095) ∈ gW0 := gw_in (List.mem_of_getElem? (i := 127) (by decide +kernel)) rfl
theorem fX7_9 : gFld RX7 9 6 0 (.array .int) true := ⟨RX7, TX7, 8, tyX7, rfl, w_X7, tyX7_ok, nmX7, by decide, gw_in (List.mem_of_getElem? (i := 128) (by decide +kernel)) rfl, rfl, rfl, rfl⟩
theorem fX7_15 : gFld RX7 15 6 1 (.array .int) true := ⟨RX7, TX7, 8, tyX7, rfl, w_X7, tyX7_ok, nmX7, by decide, gw_in (List.mem_of_getElem? (i := 129) (by decide +kernel)) rfl, rfl, rfl, rfl⟩
theorem fX11_55 : gFld RX11 55 6 1 (.array .int) true := ⟨RX7, TX7, 8, tyX7, rfl, w_X7, tyX7_ok, nmX7, by decide, gw_in (List.mem_of_getElem? (i := 130) (by decide +kernel)) rfl, rfl, rfl, rfl⟩
theorem fX7_18 : gFld RX7 18 6 2 (.array .boolean) true := ⟨RX7, TX7, 8, tyX7, rfl, w_X7, tyX7_ok, nmX7, by decide, gw_in (List.mem_of_getElem? (i := 131) (by decide +kernel)) rfl, rfl, rfl, rfl⟩
theorem fX11_47 : gFld RX11 47 6 2 (.array .boolean) true := ⟨RX7, TX7, 8, tyX7, rfl, w_X7, tyX7_ok, nmX7, by decide, gw_in (List.mem_of_getElem? (i := 132) (by decide +kernel)) rfl, rfl, rfl, rfl⟩
theorem fX7_24 : gFld RX7 24 6 3 (.array (.object "AlertEngine$Rule")) true := ⟨RX7, TX7, 8, tyX7, rfl, w_X7, tyX7_ok, nmX7, by decide, gw_in (List.mem_of_getElem? (i := 133) (by decide +kernel)) rfl, rfl, rfl, rfl⟩
theorem fX11_165 : gFld RX11 165 6 3 (.array (.object "AlertEngine$Rule")) true := ⟨RX7, TX7, 8, tyX7, rfl, w_X7, tyX7_ok, nmX7, by decide, gw_in (List.mem_of_getElem? (i := 134) (by decide +kernel)) rfl, rfl, rfl, rfl⟩
theorem fX7_30 : gFld RX7 30 6 4 (.array (.object "AlertEngine$Silence")) true := ⟨RX7, TX7, 8, tyX7, rfl, w_X7, tyX7_ok, nmX7, by decide, gw_in (List.mem_of_getElem? (i := 135) (by decide +kernel)) rfl, rfl, rfl, rfl⟩
theorem fX11_94 : gFld RX11 94 6 4 (.array (.object "AlertEngine$Silence")) true := ⟨RX7, TX7, 8, tyX7, rfl, w_X7, tyX7_ok, nmX7, by decide, gw_in (List.mem_of_getElem? (i := 136) (by decide +kernel)) rfl, rfl, rfl, rfl⟩
theorem fX9_120 : gFld RX9 120 6 4 (.array (.object "AlertEngine$Silence")) true := ⟨RX7, TX7, 8, tyX7, rfl, w_X7, tyX7_ok, nmX7, by decide, gw_in (List.mem_of_getElem? (i := 137) (by decide +kernel)) rfl, rfl, rfl, rfl⟩
theorem fX7_36 : gFld RX7 36 6 5 (.array (.object "AlertEngine$Inhibition")) true := ⟨RX7, TX7, 8, tyX7, rfl, w_X7, tyX7_ok, nmX7, by decide, gw_in (List.mem_of_getElem? (i := 138) (by decide +kernel)) rfl, rfl, rfl, rfl⟩
theorem fX11_102 : gFld RX11 102 6 5 (.array (.object "AlertEngine$Inhibition")) true := ⟨RX7, TX7, 8, tyX7, rfl, w_X7, tyX7_ok, nmX7, by decide, gw_in (List.mem_of_getElem? (i := 139) (by decide +kernel)) rfl, rfl, rfl, rfl⟩
theorem fX9_146 : gFld RX9 146 6 5 (.array (.object "AlertEngine$Inhibition")) true := ⟨RX7, TX7, 8, tyX7, rfl, w_X7, tyX7_ok, nmX7, by decide, gw_in (List.mem_of_getElem? (i := 140) (by decide +kernel)) rfl, rfl, rfl, rfl⟩
theorem fX7_40 : gFld RX7 40 6 6 (.array .int) true := ⟨RX7, TX7, 8, tyX7, rfl, w_X7, tyX7_ok, nmX7, by decide, gw_in (List.mem_of_getElem? (i := 141) (by decide +kernel)) rfl, rfl, rfl, rfl⟩
theorem fX2_46 : gFld RX2 46 6 6 (.array .int) true := ⟨RX7, TX7, 8, tyX7, rfl, w_X7, tyX7_ok, nmX7, by decide, gw_in (List.mem_of_getElem? (i := 142) (by decide +kernel)) rfl, rfl, rfl, rfl⟩
theorem fX11_142 : gFld RX11 142 6 6 (.array .int) true := ⟨RX7, TX7, 8, tyX7, rfl, w_X7, tyX7_ok, nmX7, by decide, gw_in (List.mem_of_getElem? (i := 143) (by decide +kernel)) rfl, rfl, rfl, rfl⟩
theorem fX9_173 : gFld RX9 173 6 6 (.array .int) true := ⟨RX7, TX7, 8, tyX7, rfl, w_X7, tyX7_ok, nmX7, by decide, gw_in (List.mem_of_getElem? (i := 144) (by decide +kernel)) rfl, rfl, rfl, rfl⟩
theorem fX7_43 : gFld RX7 43 6 7 (.array .long) true := ⟨RX7, TX7, 8, tyX7, rfl, w_X7, tyX7_ok, nmX7, by decide, gw_in (List.mem_of_getElem? (i := 145) (by decide +kernel)) rfl, rfl, rfl, rfl⟩
theorem kX9_18 : Cond.classLink RX9 18 RX0 ∈ gW0 := gw_in (List.mem_of_getElem? (i := 165) (by decide +kernel)) rfl
theorem nX9_18 : gCls RX9 18 0 5 [.long 0, .long 0, .null, .null, .null] := ⟨RX0, TX0, tyX0, rfl, w_X0, tyX0_ok, kX9_18, gw_in (List.mem_of_getElem? (i := 166) (by decide +kernel)) rfl, gw_in (List.mem_of_getElem? (i := 58) (by decide +kernel)) rfl, fun j hj => by rcases (show j = 0 ∨ j = 1 ∨ j = 2 ∨ j = 3 ∨ j = 4 by omega) with rfl | rfl | rfl | rfl | rfl <;> rfl⟩
theorem lX9_20 : Cond.methodLinkNest RX9 20 yX0_init RX11 ∈ gNest := by decide +kernel
theorem i_X0_init : Cond.instanceMethod yX0_init ∈ gW0 := gw_in (List.mem_of_getElem? (i := 168) (by decide +kernel)) rfl
theorem oX0_3 : Cond.methodLink RX0 3 objectInit ∈ gW0 := gw_in (List.mem_of_getElem? (i := 170) (by decide +kernel)) rfl
theorem fX0_21 : gFld RX0 21 0 0 .long false := ⟨RX0, TX0, 5, tyX0, rfl, w_X0, tyX0_ok, nmX0, by decide, gw_in (List.mem_of_getElem? (i := 171) (by decide +kernel)) rfl, rfl, rfl, rfl⟩
theorem fX11_217 : gFld RX11 217 0 0 .long false := ⟨RX0, TX0, 5, tyX0, rfl, w_X0, tyX0_ok, nmX0, by decide, gw_in (List.mem_of_getElem? (i := 172) (by decide +kernel)) rfl, rfl, rfl, rfl⟩
theorem fX0_25 : gFld RX0 25 0 1 .long false := ⟨RX0, TX0, 5, tyX0, rfl, w_X0, tyX0_ok, nmX0, by decide, gw_in (List.mem_of_getElem? (i := 173) (by decide +kernel)) rfl, rfl, rfl, rfl⟩
theorem fX9_104 : gFld RX9 104 0 1 .long false := ⟨RX0, TX0, 5, tyX0, rfl, w_X0, tyX0_ok, nmX0, by decide, gw_in (List.mem_of_getElem? (i := 174) (by decide +kernel)) rfl, rfl, rfl, rfl⟩
theorem fX11_221 : gFld RX11 221 0 1 .long false := ⟨RX0, TX0, 5, tyX0, rfl, w_X0, tyX0_ok, nmX0, by decide, gw_in (List.mem_of_getElem? (i := 175) (by decide +kernel)) rfl, rfl, rfl, rfl⟩
theorem fX0_9 : gFld RX0 9 0 2 (.array .int) true := ⟨RX0, TX0, 5, tyX0, rfl, w_X0, tyX0_ok, nmX0, by decide, gw_in (List.mem_of_getElem? (i := 176) (by decide +kernel)) rfl, rfl, rfl, rfl⟩
theorem fX0_15 : gFld RX0 15 0 3 (.array .int) true := ⟨RX0, TX0, 5, tyX0, rfl, w_X0, tyX0_ok, nmX0, by decide, gw_in (List.mem_of_getElem? (i := 177) (by decide +kernel)) rfl, rfl, rfl, rfl⟩
theorem fX0_18 : gFld RX0 18 0 4 (.array .int) true := ⟨RX0, TX0, 5, tyX0, rfl, w_X0, tyX0_ok, nmX0, by decide, gw_in (List.mem_of_getElem? (i := 178) (by decide +kernel)) rfl, rfl, rfl, rfl⟩
theorem kX9_25 : Cond.classLink RX9 25 RX2 ∈ gW0 := gw_in (List.mem_of_getElem? (i := 190) (by decide +kernel)) rfl
theorem nX9_25 : gCls RX9 25 1 4 [.null, .null, .null, .null] := ⟨RX2, TX2, tyX2, rfl, w_X2, tyX2_ok, kX9_25, gw_in (List.mem_of_getElem? (i := 191) (by decide +kernel)) rfl, gw_in (List.mem_of_getElem? (i := 59) (by decide +kernel)) rfl, fun j hj => by rcases (show j = 0 ∨ j = 1 ∨ j = 2 ∨ j = 3 by omega) with rfl | rfl | rfl | rfl <;> rfl⟩
theorem lX9_27 : Cond.methodLinkNest RX9 27 yX2_init RX11 ∈ gNest := by decide +kernel
theorem i_X2_init : Cond.instanceMethod yX2_init ∈ gW0 := gw_in (List.mem_of_getElem? (i := 193) (by decide +kernel)) rfl
theorem oX2_3 : Cond.methodLink RX2 3 objectInit ∈ gW0 := gw_in (List.mem_of_getElem? (i := 195) (by decide +kernel)) rfl
theorem fX2_9 : gFld RX2 9 1 0 (.array .boolean) true := ⟨RX2, TX2, 4, tyX2, rfl, w_X2, tyX2_ok, nmX2, by decide, gw_in (List.mem_of_getElem? (i := 196) (by decide +kernel)) rfl, rfl, rfl, rfl⟩
theorem fX11_233 : gFld RX11 233 1 0 (.array .boolean) true := ⟨RX2, TX2, 4, tyX2, rfl, w_X2, tyX2_ok, nmX2, by decide, gw_in (List.mem_of_getElem? (i := 197) (by decide +kernel)) rfl, rfl, rfl, rfl⟩
theorem fX2_15 : gFld RX2 15 1 1 (.array .int) true := ⟨RX2, TX2, 4, tyX2, rfl, w_X2, tyX2_ok, nmX2, by decide, gw_in (List.mem_of_getElem? (i := 198) (by decide +kernel)) rfl, rfl, rfl, rfl⟩
theorem fX11_236 : gFld RX11 236 1 1 (.array .int) true := ⟨RX2, TX2, 4, tyX2, rfl, w_X2, tyX2_ok, nmX2, by decide, gw_in (List.mem_of_getElem? (i := 199) (by decide +kernel)) rfl, rfl, rfl, rfl⟩
theorem fX2_19 : gFld RX2 19 1 2 (.array .long) true := ⟨RX2, TX2, 4, tyX2, rfl, w_X2, tyX2_ok, nmX2, by decide, gw_in (List.mem_of_getElem? (i := 200) (by decide +kernel)) rfl, rfl, rfl, rfl⟩
theorem fX2_23 : gFld RX2 23 1 3 (.array .long) true := ⟨RX2, TX2, 4, tyX2, rfl, w_X2, tyX2_ok, nmX2, by decide, gw_in (List.mem_of_getElem? (i := 201) (by decide +kernel)) rfl, rfl, rfl, rfl⟩
theorem fX9_83 : gFld RX9 83 1 3 (.array .long) true := ⟨RX2, TX2, 4, tyX2, rfl, w_X2, tyX2_ok, nmX2, by decide, gw_in (List.mem_of_getElem? (i := 202) (by decide +kernel)) rfl, rfl, rfl, rfl⟩
theorem fX11_239 : gFld RX11 239 1 3 (.array .long) true := ⟨RX2, TX2, 4, tyX2, rfl, w_X2, tyX2_ok, nmX2, by decide, gw_in (List.mem_of_getElem? (i := 203) (by decide +kernel)) rfl, rfl, rfl, rfl⟩
theorem kX9_32 : Cond.classLink RX9 32 RX4 ∈ gW0 := gw_in (List.mem_of_getElem? (i := 213) (by decide +kernel)) rfl
theorem nX9_32 : gCls RX9 32 3 2 [.null, .int 0] := ⟨RX4, TX4, tyX4, rfl, w_X4, tyX4_ok, kX9_32, gw_in (List.mem_of_getElem? (i := 214) (by decide +kernel)) rfl, gw_in (List.mem_of_getElem? (i := 60) (by decide +kernel)) rfl, fun j hj => by rcases (show j = 0 ∨ j = 1 by omega) with rfl | rfl <;> rfl⟩
theorem lX9_34 : Cond.methodLinkNest RX9 34 yX4_init RX11 ∈ gNest := by decide +kernel
theorem i_X4_init : Cond.instanceMethod yX4_init ∈ gW0 := gw_in (List.mem_of_getElem? (i := 216) (by decide +kernel)) rfl
theorem oX4_1 : Cond.methodLink RX4 1 objectInit ∈ gW0 := gw_in (List.mem_of_getElem? (i := 218) (by decide +kernel)) rfl
theorem fX4_9 : gFld RX4 9 3 0 (.array .int) true := ⟨RX4, TX4, 2, tyX4, rfl, w_X4, tyX4_ok, nmX4, by decide, gw_in (List.mem_of_getElem? (i := 219) (by decide +kernel)) rfl, rfl, rfl, rfl⟩
theorem fX4_13 : gFld RX4 13 3 1 .int false := ⟨RX4, TX4, 2, tyX4, rfl, w_X4, tyX4_ok, nmX4, by decide, gw_in (List.mem_of_getElem? (i := 220) (by decide +kernel)) rfl, rfl, rfl, rfl⟩
theorem fX11_286 : gFld RX11 286 3 1 .int false := ⟨RX4, TX4, 2, tyX4, rfl, w_X4, tyX4_ok, nmX4, by decide, gw_in (List.mem_of_getElem? (i := 221) (by decide +kernel)) rfl, rfl, rfl, rfl⟩
theorem fX9_39 : gFld RX9 39 8 0 .int false := ⟨RX9, TX9, 5, tyX9, rfl, w_X9, tyX9_ok, nmX9, by decide, gw_in (List.mem_of_getElem? (i := 227) (by decide +kernel)) rfl, rfl, rfl, rfl⟩
theorem fX11_157 : gFld RX11 157 8 0 .int false := ⟨RX9, TX9, 5, tyX9, rfl, w_X9, tyX9_ok, nmX9, by decide, gw_in (List.mem_of_getElem? (i := 228) (by decide +kernel)) rfl, rfl, rfl, rfl⟩
theorem fX9_12 : gFld RX9 12 8 1 (.object "AlertEngine$Setup") true := ⟨RX9, TX9, 5, tyX9, rfl, w_X9, tyX9_ok, nmX9, by decide, gw_in (List.mem_of_getElem? (i := 229) (by decide +kernel)) rfl, rfl, rfl, rfl⟩
theorem fX11_37 : gFld RX11 37 8 1 (.object "AlertEngine$Setup") true := ⟨RX9, TX9, 5, tyX9, rfl, w_X9, tyX9_ok, nmX9, by decide, gw_in (List.mem_of_getElem? (i := 230) (by decide +kernel)) rfl, rfl, rfl, rfl⟩
theorem fX9_21 : gFld RX9 21 8 2 (.object "AlertEngine$AlertStates") true := ⟨RX9, TX9, 5, tyX9, rfl, w_X9, tyX9_ok, nmX9, by decide, gw_in (List.mem_of_getElem? (i := 231) (by decide +kernel)) rfl, rfl, rfl, rfl⟩
theorem fX11_124 : gFld RX11 124 8 2 (.object "AlertEngine$AlertStates") true := ⟨RX9, TX9, 5, tyX9, rfl, w_X9, tyX9_ok, nmX9, by decide, gw_in (List.mem_of_getElem? (i := 232) (by decide +kernel)) rfl, rfl, rfl, rfl⟩
theorem fX9_28 : gFld RX9 28 8 3 (.object "AlertEngine$Groups") true := ⟨RX9, TX9, 5, tyX9, rfl, w_X9, tyX9_ok, nmX9, by decide, gw_in (List.mem_of_getElem? (i := 233) (by decide +kernel)) rfl, rfl, rfl, rfl⟩
theorem fX11_145 : gFld RX11 145 8 3 (.object "AlertEngine$Groups") true := ⟨RX9, TX9, 5, tyX9, rfl, w_X9, tyX9_ok, nmX9, by decide, gw_in (List.mem_of_getElem? (i := 234) (by decide +kernel)) rfl, rfl, rfl, rfl⟩
theorem fX9_35 : gFld RX9 35 8 4 (.object "AlertEngine$Log") true := ⟨RX9, TX9, 5, tyX9, rfl, w_X9, tyX9_ok, nmX9, by decide, gw_in (List.mem_of_getElem? (i := 235) (by decide +kernel)) rfl, rfl, rfl, rfl⟩
theorem fX11_261 : gFld RX11 261 8 4 (.object "AlertEngine$Log") true := ⟨RX9, TX9, 5, tyX9, rfl, w_X9, tyX9_ok, nmX9, by decide, gw_in (List.mem_of_getElem? (i := 236) (by decide +kernel)) rfl, rfl, rfl, rfl⟩
theorem fX11_12 : gFld RX11 12 10 0 (.object "AlertEngine$Tape") true := ⟨RX11, TX11, 5, tyX11, rfl, w_X11, tyX11_ok, nmX11, by decide, gw_in (List.mem_of_getElem? (i := 248) (by decide +kernel)) rfl, rfl, rfl, rfl⟩
theorem fX11_19 : gFld RX11 19 10 1 (.object "AlertEngine$State") true := ⟨RX11, TX11, 5, tyX11, rfl, w_X11, tyX11_ok, nmX11, by decide, gw_in (List.mem_of_getElem? (i := 249) (by decide +kernel)) rfl, rfl, rfl, rfl⟩
theorem fX11_23 : gFld RX11 23 10 2 (.object "AlertEngine$State") true := ⟨RX11, TX11, 5, tyX11, rfl, w_X11, tyX11_ok, nmX11, by decide, gw_in (List.mem_of_getElem? (i := 250) (by decide +kernel)) rfl, rfl, rfl, rfl⟩
theorem fX11_26 : gFld RX11 26 10 3 (.object "AlertEngine$State") true := ⟨RX11, TX11, 5, tyX11, rfl, w_X11, tyX11_ok, nmX11, by decide, gw_in (List.mem_of_getElem? (i := 251) (by decide +kernel)) rfl, rfl, rfl, rfl⟩
theorem fX11_280 : gFld RX11 280 10 4 .boolean false := ⟨RX11, TX11, 5, tyX11, rfl, w_X11, tyX11_ok, nmX11, by decide, gw_in (List.mem_of_getElem? (i := 252) (by decide +kernel)) rfl, rfl, rfl, rfl⟩
theorem lL_13 : Cond.methodLink RL 13 yX11_label ∈ gW0 := gw_in (List.mem_of_getElem? (i := 264) (by decide +kernel)) rfl
theorem i_X11_label : Cond.instanceMethod yX11_label ∈ gW0 := gw_in (List.mem_of_getElem? (i := 265) (by decide +kernel)) rfl
theorem s_X11_label : Cond.selects yX11_label.cls yX11_label yX11_label ∈ gW0 := gw_in (List.mem_of_getElem? (i := 266) (by decide +kernel)) rfl
theorem lX11_29 : Cond.methodLink RX11 29 yX11_isSeries ∈ gW0 := gw_in (List.mem_of_getElem? (i := 268) (by decide +kernel)) rfl
theorem i_X11_isSeries : Cond.static yX11_isSeries ∈ gW0 := gw_in (List.mem_of_getElem? (i := 269) (by decide +kernel)) rfl
theorem gX11_33 : Cond.fieldLink RX11 33 RX11 (gSt 1).1 "[I" ∈ gW0 := gw_in (List.mem_of_getElem? (i := 271) (by decide +kernel)) rfl
theorem lX11_41 : Cond.methodLink RX11 41 yX7_relabel ∈ gW0 := gw_in (List.mem_of_getElem? (i := 273) (by decide +kernel)) rfl
theorem i_X7_relabel : Cond.instanceMethod yX7_relabel ∈ gW0 := gw_in (List.mem_of_getElem? (i := 274) (by decide +kernel)) rfl
theorem s_X7_relabel : Cond.selects yX7_relabel.cls yX7_relabel yX7_relabel ∈ gW0 := gw_in (List.mem_of_getElem? (i := 275) (by decide +kernel)) rfl
theorem lL_18 : Cond.methodLink RL 18 yX11_sample ∈ gW0 := gw_in (List.mem_of_getElem? (i := 277) (by decide +kernel)) rfl
theorem i_X11_sample : Cond.instanceMethod yX11_sample ∈ gW0 := gw_in (List.mem_of_getElem? (i := 278) (by decide +kernel)) rfl
theorem s_X11_sample : Cond.selects yX11_sample.cls yX11_sample yX11_sample ∈ gW0 := gw_in (List.mem_of_getElem? (i := 279) (by decide +kernel)) rfl
theorem lX11_51 : Cond.methodLink RX11 51 yX11_bit ∈ gW0 := gw_in (List.mem_of_getElem? (i := 281) (by decide +kernel)) rfl
theorem i_X11_bit : Cond.static yX11_bit ∈ gW0 := gw_in (List.mem_of_getElem? (i := 282) (by decide +kernel)) rfl
theorem lL_23 : Cond.methodLink RL 23 yX11_drop ∈ gW0 := gw_in (List.mem_of_getElem? (i := 284) (by decide +kernel)) rfl
theorem i_X11_drop : Cond.instanceMethod yX11_drop ∈ gW0 := gw_in (List.mem_of_getElem? (i := 285) (by decide +kernel)) rfl
theorem s_X11_drop : Cond.selects yX11_drop.cls yX11_drop yX11_drop ∈ gW0 := gw_in (List.mem_of_getElem? (i := 286) (by decide +kernel)) rfl
theorem lL_28 : Cond.methodLink RL 28 yX11_feed ∈ gW0 := gw_in (List.mem_of_getElem? (i := 288) (by decide +kernel)) rfl
theorem i_X11_feed : Cond.instanceMethod yX11_feed ∈ gW0 := gw_in (List.mem_of_getElem? (i := 289) (by decide +kernel)) rfl
theorem s_X11_feed : Cond.selects yX11_feed.cls yX11_feed yX11_feed ∈ gW0 := gw_in (List.mem_of_getElem? (i := 290) (by decide +kernel)) rfl
theorem lX11_58 : Cond.methodLink RX11 58 yX11_isByte ∈ gW0 := gw_in (List.mem_of_getElem? (i := 292) (by decide +kernel)) rfl
theorem i_X11_isByte : Cond.static yX11_isByte ∈ gW0 := gw_in (List.mem_of_getElem? (i := 293) (by decide +kernel)) rfl
theorem lX11_61 : Cond.methodLink RX11 61 yX10_hasRoomFor ∈ gW0 := gw_in (List.mem_of_getElem? (i := 295) (by decide +kernel)) rfl
theorem i_X10_hasRoomFor : Cond.instanceMethod yX10_hasRoomFor ∈ gW0 := gw_in (List.mem_of_getElem? (i := 296) (by decide +kernel)) rfl
theorem s_X10_hasRoomFor : Cond.selects yX10_hasRoomFor.cls yX10_hasRoomFor yX10_hasRoomFor ∈ gW0 := gw_in (List.mem_of_getElem? (i := 297) (by decide +kernel)) rfl
theorem lX11_64 : Cond.methodLink RX11 64 yX10_append ∈ gW0 := gw_in (List.mem_of_getElem? (i := 299) (by decide +kernel)) rfl
theorem i_X10_append : Cond.instanceMethod yX10_append ∈ gW0 := gw_in (List.mem_of_getElem? (i := 300) (by decide +kernel)) rfl
theorem s_X10_append : Cond.selects yX10_append.cls yX10_append yX10_append ∈ gW0 := gw_in (List.mem_of_getElem? (i := 301) (by decide +kernel)) rfl
theorem lL_33 : Cond.methodLink RL 33 yX11_add ∈ gW0 := gw_in (List.mem_of_getElem? (i := 303) (by decide +kernel)) rfl
theorem i_X11_add : Cond.instanceMethod yX11_add ∈ gW0 := gw_in (List.mem_of_getElem? (i := 304) (by decide +kernel)) rfl
theorem s_X11_add : Cond.selects yX11_add.cls yX11_add yX11_add ∈ gW0 := gw_in (List.mem_of_getElem? (i := 305) (by decide +kernel)) rfl
theorem lX11_72 : Cond.methodLink RX11 72 yX11_isKind ∈ gW0 := gw_in (List.mem_of_getElem? (i := 307) (by decide +kernel)) rfl
theorem i_X11_isKind : Cond.static yX11_isKind ∈ gW0 := gw_in (List.mem_of_getElem? (i := 308) (by decide +kernel)) rfl
theorem lX11_75 : Cond.methodLink RX11 75 yX7_slots ∈ gW0 := gw_in (List.mem_of_getElem? (i := 310) (by decide +kernel)) rfl
theorem i_X7_slots : Cond.instanceMethod yX7_slots ∈ gW0 := gw_in (List.mem_of_getElem? (i := 311) (by decide +kernel)) rfl
theorem s_X7_slots : Cond.selects yX7_slots.cls yX7_slots yX7_slots ∈ gW0 := gw_in (List.mem_of_getElem? (i := 312) (by decide +kernel)) rfl
theorem lX11_79 : Cond.methodLink RX11 79 yX11_lowestFree ∈ gW0 := gw_in (List.mem_of_getElem? (i := 314) (by decide +kernel)) rfl
theorem i_X11_lowestFree : Cond.static yX11_lowestFree ∈ gW0 := gw_in (List.mem_of_getElem? (i := 315) (by decide +kernel)) rfl
theorem lX11_83 : Cond.methodLink RX11 83 yX10_rewind ∈ gW0 := gw_in (List.mem_of_getElem? (i := 317) (by decide +kernel)) rfl
theorem i_X10_rewind : Cond.instanceMethod yX10_rewind ∈ gW0 := gw_in (List.mem_of_getElem? (i := 318) (by decide +kernel)) rfl
theorem s_X10_rewind : Cond.selects yX10_rewind.cls yX10_rewind yX10_rewind ∈ gW0 := gw_in (List.mem_of_getElem? (i := 319) (by decide +kernel)) rfl
theorem lX11_86 : Cond.methodLink RX11 86 yX10_readRule ∈ gW0 := gw_in (List.mem_of_getElem? (i := 321) (by decide +kernel)) rfl
theorem i_X10_readRule : Cond.instanceMethod yX10_readRule ∈ gW0 := gw_in (List.mem_of_getElem? (i := 322) (by decide +kernel)) rfl
theorem s_X10_readRule : Cond.selects yX10_readRule.cls yX10_readRule yX10_readRule ∈ gW0 := gw_in (List.mem_of_getElem? (i := 323) (by decide +kernel)) rfl
theorem lX10_26 : Cond.methodLink RX10 26 yX10_startsRuleSign ∈ gW0 := gw_in (List.mem_of_getElem? (i := 325) (by decide +kernel)) rfl
theorem i_X10_startsRuleSign : Cond.instanceMethod yX10_startsRuleSign ∈ gW0 := gw_in (List.mem_of_getElem? (i := 327) (by decide +kernel)) rfl
theorem lX10_37 : Cond.methodLink RX10 37 yX10_peek ∈ gW0 := gw_in (List.mem_of_getElem? (i := 329) (by decide +kernel)) rfl
theorem i_X10_peek : Cond.instanceMethod yX10_peek ∈ gW0 := gw_in (List.mem_of_getElem? (i := 331) (by decide +kernel)) rfl
theorem kX10_30 : Cond.classLink RX10 30 RX5 ∈ gW0 := gw_in (List.mem_of_getElem? (i := 333) (by decide +kernel)) rfl
theorem nX10_30 : gCls RX10 30 4 3 [.null, .null, .int 0] := ⟨RX5, TX5, tyX5, rfl, w_X5, tyX5_ok, kX10_30, gw_in (List.mem_of_getElem? (i := 334) (by decide +kernel)) rfl, gw_in (List.mem_of_getElem? (i := 62) (by decide +kernel)) rfl, fun j hj => by rcases (show j = 0 ∨ j = 1 ∨ j = 2 by omega) with rfl | rfl | rfl <;> rfl⟩
theorem lX10_32 : Cond.methodLinkNest RX10 32 yX5_init RX11 ∈ gNest := by decide +kernel
theorem i_X5_init : Cond.instanceMethod yX5_init ∈ gW0 := gw_in (List.mem_of_getElem? (i := 336) (by decide +kernel)) rfl
theorem oX5_1 : Cond.methodLink RX5 1 objectInit ∈ gW0 := gw_in (List.mem_of_getElem? (i := 338) (by decide +kernel)) rfl
theorem fX5_9 : gFld RX5 9 4 0 (.array .int) true := ⟨RX5, TX5, 3, tyX5, rfl, w_X5, tyX5_ok, nmX5, by decide, gw_in (List.mem_of_getElem? (i := 339) (by decide +kernel)) rfl, rfl, rfl, rfl⟩
theorem fX7_74 : gFld RX7 74 4 0 (.array .int) true := ⟨RX5, TX5, 3, tyX5, rfl, w_X5, tyX5_ok, nmX5, by decide, gw_in (List.mem_of_getElem? (i := 340) (by decide +kernel)) rfl, rfl, rfl, rfl⟩
theorem fX10_91 : gFld RX10 91 4 0 (.array .int) true := ⟨RX5, TX5, 3, tyX5, rfl, w_X5, tyX5_ok, nmX5, by decide, gw_in (List.mem_of_getElem? (i := 341) (by decide +kernel)) rfl, rfl, rfl, rfl⟩
theorem fX5_13 : gFld RX5 13 4 1 (.array .boolean) true := ⟨RX5, TX5, 3, tyX5, rfl, w_X5, tyX5_ok, nmX5, by decide, gw_in (List.mem_of_getElem? (i := 342) (by decide +kernel)) rfl, rfl, rfl, rfl⟩
theorem fX7_76 : gFld RX7 76 4 1 (.array .boolean) true := ⟨RX5, TX5, 3, tyX5, rfl, w_X5, tyX5_ok, nmX5, by decide, gw_in (List.mem_of_getElem? (i := 343) (by decide +kernel)) rfl, rfl, rfl, rfl⟩
theorem fX10_97 : gFld RX10 97 4 1 (.array .boolean) true := ⟨RX5, TX5, 3, tyX5, rfl, w_X5, tyX5_ok, nmX5, by decide, gw_in (List.mem_of_getElem? (i := 344) (by decide +kernel)) rfl, rfl, rfl, rfl⟩
theorem fX7_69 : gFld RX7 69 4 2 .int false := ⟨RX5, TX5, 3, tyX5, rfl, w_X5, tyX5_ok, nmX5, by decide, gw_in (List.mem_of_getElem? (i := 345) (by decide +kernel)) rfl, rfl, rfl, rfl⟩
theorem fX10_88 : gFld RX10 88 4 2 .int false := ⟨RX5, TX5, 3, tyX5, rfl, w_X5, tyX5_ok, nmX5, by decide, gw_in (List.mem_of_getElem? (i := 346) (by decide +kernel)) rfl, rfl, rfl, rfl⟩
theorem lX10_33 : Cond.methodLink RX10 33 yX10_readMatchersAhead ∈ gW0 := gw_in (List.mem_of_getElem? (i := 354) (by decide +kernel)) rfl
theorem i_X10_readMatchersAhead : Cond.instanceMethod yX10_readMatchersAhead ∈ gW0 := gw_in (List.mem_of_getElem? (i := 356) (by decide +kernel)) rfl
theorem lX10_67 : Cond.methodLink RX10 67 yX10_readMatchers ∈ gW0 := gw_in (List.mem_of_getElem? (i := 358) (by decide +kernel)) rfl
theorem i_X10_readMatchers : Cond.instanceMethod yX10_readMatchers ∈ gW0 := gw_in (List.mem_of_getElem? (i := 360) (by decide +kernel)) rfl
theorem lX10_84 : Cond.methodLink RX10 84 yX10_readMatcher ∈ gW0 := gw_in (List.mem_of_getElem? (i := 362) (by decide +kernel)) rfl
theorem i_X10_readMatcher : Cond.instanceMethod yX10_readMatcher ∈ gW0 := gw_in (List.mem_of_getElem? (i := 364) (by decide +kernel)) rfl
theorem lX10_41 : Cond.methodLink RX10 41 yX10_skip ∈ gW0 := gw_in (List.mem_of_getElem? (i := 366) (by decide +kernel)) rfl
theorem i_X10_skip : Cond.instanceMethod yX10_skip ∈ gW0 := gw_in (List.mem_of_getElem? (i := 368) (by decide +kernel)) rfl
theorem lX10_76 : Cond.methodLink RX10 76 yX10_labelOf ∈ gW0 := gw_in (List.mem_of_getElem? (i := 370) (by decide +kernel)) rfl
theorem i_X10_labelOf : Cond.static yX10_labelOf ∈ gW0 := gw_in (List.mem_of_getElem? (i := 371) (by decide +kernel)) rfl
theorem gX10_52 : Cond.fieldLinkNest RX10 52 RX11 (gSt 1).1 "[I" RX11 ∈ gNest := by decide +kernel
theorem lX10_55 : Cond.methodLink RX10 55 yX10_readDigit ∈ gW0 := gw_in (List.mem_of_getElem? (i := 374) (by decide +kernel)) rfl
theorem i_X10_readDigit : Cond.instanceMethod yX10_readDigit ∈ gW0 := gw_in (List.mem_of_getElem? (i := 376) (by decide +kernel)) rfl
theorem gX10_94 : Cond.fieldLinkNest RX10 94 RX11 (gSt 0).1 "[I" RX11 ∈ gNest := by decide +kernel
theorem lX10_48 : Cond.methodLink RX10 48 yX10_expect ∈ gW0 := gw_in (List.mem_of_getElem? (i := 379) (by decide +kernel)) rfl
theorem i_X10_expect : Cond.instanceMethod yX10_expect ∈ gW0 := gw_in (List.mem_of_getElem? (i := 381) (by decide +kernel)) rfl
theorem lX10_45 : Cond.methodLink RX10 45 yX10_readNumber ∈ gW0 := gw_in (List.mem_of_getElem? (i := 383) (by decide +kernel)) rfl
theorem i_X10_readNumber : Cond.instanceMethod yX10_readNumber ∈ gW0 := gw_in (List.mem_of_getElem? (i := 385) (by decide +kernel)) rfl
theorem lX10_59 : Cond.methodLink RX10 59 yX10_expectEnd ∈ gW0 := gw_in (List.mem_of_getElem? (i := 387) (by decide +kernel)) rfl
theorem i_X10_expectEnd : Cond.instanceMethod yX10_expectEnd ∈ gW0 := gw_in (List.mem_of_getElem? (i := 389) (by decide +kernel)) rfl
theorem kX10_62 : Cond.classLink RX10 62 RX6 ∈ gW0 := gw_in (List.mem_of_getElem? (i := 391) (by decide +kernel)) rfl
theorem nX10_62 : gCls RX10 62 5 5 [.null, .int 0, .int 0, .int 0, .int 0] := ⟨RX6, TX6, tyX6, rfl, w_X6, tyX6_ok, kX10_62, gw_in (List.mem_of_getElem? (i := 392) (by decide +kernel)) rfl, gw_in (List.mem_of_getElem? (i := 64) (by decide +kernel)) rfl, fun j hj => by rcases (show j = 0 ∨ j = 1 ∨ j = 2 ∨ j = 3 ∨ j = 4 by omega) with rfl | rfl | rfl | rfl | rfl <;> rfl⟩
theorem lX10_64 : Cond.methodLink RX10 64 yX6_init ∈ gW0 := gw_in (List.mem_of_getElem? (i := 393) (by decide +kernel)) rfl
theorem i_X6_init : Cond.instanceMethod yX6_init ∈ gW0 := gw_in (List.mem_of_getElem? (i := 394) (by decide +kernel)) rfl
theorem lX6_1 : Cond.methodLinkNest RX6 1 yX1_init RX11 ∈ gNest := by decide +kernel
theorem i_X1_init : Cond.instanceMethod yX1_init ∈ gW0 := gw_in (List.mem_of_getElem? (i := 397) (by decide +kernel)) rfl
theorem oX1_1 : Cond.methodLink RX1 1 objectInit ∈ gW0 := gw_in (List.mem_of_getElem? (i := 399) (by decide +kernel)) rfl
theorem fX6_7 : gFld RX6 7 5 0 (.object "AlertEngine$Matchers") true := ⟨RX6, TX6, 5, tyX6, rfl, w_X6, tyX6_ok, nmX6, by decide, gw_in (List.mem_of_getElem? (i := 400) (by decide +kernel)) rfl, rfl, rfl, rfl⟩
theorem fX7_85 : gFld RX7 85 5 0 (.object "AlertEngine$Matchers") true := ⟨RX6, TX6, 5, tyX6, rfl, w_X6, tyX6_ok, nmX6, by decide, gw_in (List.mem_of_getElem? (i := 401) (by decide +kernel)) rfl, rfl, rfl, rfl⟩
theorem fX6_13 : gFld RX6 13 5 1 .int true := ⟨RX6, TX6, 5, tyX6, rfl, w_X6, tyX6_ok, nmX6, by decide, gw_in (List.mem_of_getElem? (i := 402) (by decide +kernel)) rfl, rfl, rfl, rfl⟩
theorem fX6_17 : gFld RX6 17 5 2 .int true := ⟨RX6, TX6, 5, tyX6, rfl, w_X6, tyX6_ok, nmX6, by decide, gw_in (List.mem_of_getElem? (i := 403) (by decide +kernel)) rfl, rfl, rfl, rfl⟩
theorem fX6_20 : gFld RX6 20 5 3 .int true := ⟨RX6, TX6, 5, tyX6, rfl, w_X6, tyX6_ok, nmX6, by decide, gw_in (List.mem_of_getElem? (i := 404) (by decide +kernel)) rfl, rfl, rfl, rfl⟩
theorem fX7_97 : gFld RX7 97 5 3 .int true := ⟨RX6, TX6, 5, tyX6, rfl, w_X6, tyX6_ok, nmX6, by decide, gw_in (List.mem_of_getElem? (i := 405) (by decide +kernel)) rfl, rfl, rfl, rfl⟩
theorem fX6_23 : gFld RX6 23 5 4 .int true := ⟨RX6, TX6, 5, tyX6, rfl, w_X6, tyX6_ok, nmX6, by decide, gw_in (List.mem_of_getElem? (i := 406) (by decide +kernel)) rfl, rfl, rfl, rfl⟩
theorem fX7_61 : gFld RX7 61 5 4 .int true := ⟨RX6, TX6, 5, tyX6, rfl, w_X6, tyX6_ok, nmX6, by decide, gw_in (List.mem_of_getElem? (i := 407) (by decide +kernel)) rfl, rfl, rfl, rfl⟩
theorem lX11_90 : Cond.methodLink RX11 90 yX7_putRule ∈ gW0 := gw_in (List.mem_of_getElem? (i := 419) (by decide +kernel)) rfl
theorem i_X7_putRule : Cond.instanceMethod yX7_putRule ∈ gW0 := gw_in (List.mem_of_getElem? (i := 420) (by decide +kernel)) rfl
theorem s_X7_putRule : Cond.selects yX7_putRule.cls yX7_putRule yX7_putRule ∈ gW0 := gw_in (List.mem_of_getElem? (i := 421) (by decide +kernel)) rfl
theorem lX11_98 : Cond.methodLink RX11 98 yX10_readSilence ∈ gW0 := gw_in (List.mem_of_getElem? (i := 423) (by decide +kernel)) rfl
theorem i_X10_readSilence : Cond.instanceMethod yX10_readSilence ∈ gW0 := gw_in (List.mem_of_getElem? (i := 424) (by decide +kernel)) rfl
theorem s_X10_readSilence : Cond.selects yX10_readSilence.cls yX10_readSilence yX10_readSilence ∈ gW0 := gw_in (List.mem_of_getElem? (i := 425) (by decide +kernel)) rfl
theorem kX10_71 : Cond.classLink RX10 71 RX8 ∈ gW0 := gw_in (List.mem_of_getElem? (i := 427) (by decide +kernel)) rfl
theorem nX10_71 : gCls RX10 71 7 3 [.null, .int 0, .int 0] := ⟨RX8, TX8, tyX8, rfl, w_X8, tyX8_ok, kX10_71, gw_in (List.mem_of_getElem? (i := 428) (by decide +kernel)) rfl, gw_in (List.mem_of_getElem? (i := 65) (by decide +kernel)) rfl, fun j hj => by rcases (show j = 0 ∨ j = 1 ∨ j = 2 by omega) with rfl | rfl | rfl <;> rfl⟩
theorem lX10_73 : Cond.methodLink RX10 73 yX8_init ∈ gW0 := gw_in (List.mem_of_getElem? (i := 429) (by decide +kernel)) rfl
theorem i_X8_init : Cond.instanceMethod yX8_init ∈ gW0 := gw_in (List.mem_of_getElem? (i := 430) (by decide +kernel)) rfl
theorem lX8_1 : Cond.methodLinkNest RX8 1 yX1_init RX11 ∈ gNest := by decide +kernel
theorem fX8_7 : gFld RX8 7 7 0 (.object "AlertEngine$Matchers") true := ⟨RX8, TX8, 3, tyX8, rfl, w_X8, tyX8_ok, nmX8, by decide, gw_in (List.mem_of_getElem? (i := 433) (by decide +kernel)) rfl, rfl, rfl, rfl⟩
theorem fX9_130 : gFld RX9 130 7 0 (.object "AlertEngine$Matchers") true := ⟨RX8, TX8, 3, tyX8, rfl, w_X8, tyX8_ok, nmX8, by decide, gw_in (List.mem_of_getElem? (i := 434) (by decide +kernel)) rfl, rfl, rfl, rfl⟩
theorem fX8_13 : gFld RX8 13 7 1 .int true := ⟨RX8, TX8, 3, tyX8, rfl, w_X8, tyX8_ok, nmX8, by decide, gw_in (List.mem_of_getElem? (i := 435) (by decide +kernel)) rfl, rfl, rfl, rfl⟩
theorem fX8_17 : gFld RX8 17 7 2 .int true := ⟨RX8, TX8, 3, tyX8, rfl, w_X8, tyX8_ok, nmX8, by decide, gw_in (List.mem_of_getElem? (i := 436) (by decide +kernel)) rfl, rfl, rfl, rfl⟩
theorem lX11_106 : Cond.methodLink RX11 106 yX10_readInhibition ∈ gW0 := gw_in (List.mem_of_getElem? (i := 444) (by decide +kernel)) rfl
theorem i_X10_readInhibition : Cond.instanceMethod yX10_readInhibition ∈ gW0 := gw_in (List.mem_of_getElem? (i := 445) (by decide +kernel)) rfl
theorem s_X10_readInhibition : Cond.selects yX10_readInhibition.cls yX10_readInhibition yX10_readInhibition ∈ gW0 := gw_in (List.mem_of_getElem? (i := 446) (by decide +kernel)) rfl
theorem kX10_79 : Cond.classLink RX10 79 RX3 ∈ gW0 := gw_in (List.mem_of_getElem? (i := 448) (by decide +kernel)) rfl
theorem nX10_79 : gCls RX10 79 2 3 [.null, .null, .int 0] := ⟨RX3, TX3, tyX3, rfl, w_X3, tyX3_ok, kX10_79, gw_in (List.mem_of_getElem? (i := 449) (by decide +kernel)) rfl, gw_in (List.mem_of_getElem? (i := 66) (by decide +kernel)) rfl, fun j hj => by rcases (show j = 0 ∨ j = 1 ∨ j = 2 by omega) with rfl | rfl | rfl <;> rfl⟩
theorem lX10_81 : Cond.methodLink RX10 81 yX3_init ∈ gW0 := gw_in (List.mem_of_getElem? (i := 450) (by decide +kernel)) rfl
theorem i_X3_init : Cond.instanceMethod yX3_init ∈ gW0 := gw_in (List.mem_of_getElem? (i := 451) (by decide +kernel)) rfl
theorem lX3_1 : Cond.methodLinkNest RX3 1 yX1_init RX11 ∈ gNest := by decide +kernel
theorem fX3_7 : gFld RX3 7 2 0 (.object "AlertEngine$Matchers") true := ⟨RX3, TX3, 3, tyX3, rfl, w_X3, tyX3_ok, nmX3, by decide, gw_in (List.mem_of_getElem? (i := 454) (by decide +kernel)) rfl, rfl, rfl, rfl⟩
theorem fX9_155 : gFld RX9 155 2 0 (.object "AlertEngine$Matchers") true := ⟨RX3, TX3, 3, tyX3, rfl, w_X3, tyX3_ok, nmX3, by decide, gw_in (List.mem_of_getElem? (i := 455) (by decide +kernel)) rfl, rfl, rfl, rfl⟩
theorem fX3_13 : gFld RX3 13 2 1 (.object "AlertEngine$Matchers") true := ⟨RX3, TX3, 3, tyX3, rfl, w_X3, tyX3_ok, nmX3, by decide, gw_in (List.mem_of_getElem? (i := 456) (by decide +kernel)) rfl, rfl, rfl, rfl⟩
theorem fX9_150 : gFld RX9 150 2 1 (.object "AlertEngine$Matchers") true := ⟨RX3, TX3, 3, tyX3, rfl, w_X3, tyX3_ok, nmX3, by decide, gw_in (List.mem_of_getElem? (i := 457) (by decide +kernel)) rfl, rfl, rfl, rfl⟩
theorem fX3_16 : gFld RX3 16 2 2 .int true := ⟨RX3, TX3, 3, tyX3, rfl, w_X3, tyX3_ok, nmX3, by decide, gw_in (List.mem_of_getElem? (i := 458) (by decide +kernel)) rfl, rfl, rfl, rfl⟩
theorem fX9_158 : gFld RX9 158 2 2 .int true := ⟨RX3, TX3, 3, tyX3, rfl, w_X3, tyX3_ok, nmX3, by decide, gw_in (List.mem_of_getElem? (i := 459) (by decide +kernel)) rfl, rfl, rfl, rfl⟩
theorem lX11_117 : Cond.methodLink RX11 117 yX10_clear ∈ gW0 := gw_in (List.mem_of_getElem? (i := 467) (by decide +kernel)) rfl
theorem i_X10_clear : Cond.instanceMethod yX10_clear ∈ gW0 := gw_in (List.mem_of_getElem? (i := 468) (by decide +kernel)) rfl
theorem s_X10_clear : Cond.selects yX10_clear.cls yX10_clear yX10_clear ∈ gW0 := gw_in (List.mem_of_getElem? (i := 469) (by decide +kernel)) rfl
theorem lL_37 : Cond.methodLink RL 37 yX11_remove ∈ gW0 := gw_in (List.mem_of_getElem? (i := 471) (by decide +kernel)) rfl
theorem i_X11_remove : Cond.instanceMethod yX11_remove ∈ gW0 := gw_in (List.mem_of_getElem? (i := 472) (by decide +kernel)) rfl
theorem s_X11_remove : Cond.selects yX11_remove.cls yX11_remove yX11_remove ∈ gW0 := gw_in (List.mem_of_getElem? (i := 473) (by decide +kernel)) rfl
theorem lX11_120 : Cond.methodLink RX11 120 yX11_holdsEntry ∈ gW0 := gw_in (List.mem_of_getElem? (i := 475) (by decide +kernel)) rfl
theorem i_X11_holdsEntry : Cond.static yX11_holdsEntry ∈ gW0 := gw_in (List.mem_of_getElem? (i := 476) (by decide +kernel)) rfl
theorem lX11_128 : Cond.methodLink RX11 128 yX0_forgetRule ∈ gW0 := gw_in (List.mem_of_getElem? (i := 478) (by decide +kernel)) rfl
theorem i_X0_forgetRule : Cond.instanceMethod yX0_forgetRule ∈ gW0 := gw_in (List.mem_of_getElem? (i := 479) (by decide +kernel)) rfl
theorem s_X0_forgetRule : Cond.selects yX0_forgetRule.cls yX0_forgetRule yX0_forgetRule ∈ gW0 := gw_in (List.mem_of_getElem? (i := 480) (by decide +kernel)) rfl
theorem cX0_64 : Cond.constantLong RX0 64 (4095) ∈ gW0 := gw_in (List.mem_of_getElem? (i := 482) (by decide +kernel)) rfl
theorem cX0_55 : Cond.constantLong RX0 55 (-1) ∈ gW0 := gw_in (List.mem_of_getElem? (i := 483) (by decide +kernel)) rfl
theorem lX11_133 : Cond.methodLink RX11 133 yX11_countEntries ∈ gW0 := gw_in (List.mem_of_getElem? (i := 484) (by decide +kernel)) rfl
theorem i_X11_countEntries : Cond.static yX11_countEntries ∈ gW0 := gw_in (List.mem_of_getElem? (i := 485) (by decide +kernel)) rfl
theorem lL_41 : Cond.methodLink RL 41 yX11_parameter ∈ gW0 := gw_in (List.mem_of_getElem? (i := 487) (by decide +kernel)) rfl
theorem i_X11_parameter : Cond.instanceMethod yX11_parameter ∈ gW0 := gw_in (List.mem_of_getElem? (i := 488) (by decide +kernel)) rfl
theorem s_X11_parameter : Cond.selects yX11_parameter.cls yX11_parameter yX11_parameter ∈ gW0 := gw_in (List.mem_of_getElem? (i := 489) (by decide +kernel)) rfl
theorem gX11_136 : Cond.fieldLink RX11 136 RX11 (gSt 2).1 "[I" ∈ gW0 := gw_in (List.mem_of_getElem? (i := 491) (by decide +kernel)) rfl
theorem gX11_139 : Cond.fieldLink RX11 139 RX11 (gSt 3).1 "[I" ∈ gW0 := gw_in (List.mem_of_getElem? (i := 493) (by decide +kernel)) rfl
theorem lX11_149 : Cond.methodLink RX11 149 yX2_forgetAll ∈ gW0 := gw_in (List.mem_of_getElem? (i := 495) (by decide +kernel)) rfl
theorem i_X2_forgetAll : Cond.instanceMethod yX2_forgetAll ∈ gW0 := gw_in (List.mem_of_getElem? (i := 496) (by decide +kernel)) rfl
theorem s_X2_forgetAll : Cond.selects yX2_forgetAll.cls yX2_forgetAll yX2_forgetAll ∈ gW0 := gw_in (List.mem_of_getElem? (i := 497) (by decide +kernel)) rfl
theorem lL_45 : Cond.methodLink RL 45 yX11_pass ∈ gW0 := gw_in (List.mem_of_getElem? (i := 499) (by decide +kernel)) rfl
theorem i_X11_pass : Cond.instanceMethod yX11_pass ∈ gW0 := gw_in (List.mem_of_getElem? (i := 500) (by decide +kernel)) rfl
theorem s_X11_pass : Cond.selects yX11_pass.cls yX11_pass yX11_pass ∈ gW0 := gw_in (List.mem_of_getElem? (i := 501) (by decide +kernel)) rfl
theorem lX11_154 : Cond.methodLink RX11 154 yX11_isSpan ∈ gW0 := gw_in (List.mem_of_getElem? (i := 503) (by decide +kernel)) rfl
theorem i_X11_isSpan : Cond.static yX11_isSpan ∈ gW0 := gw_in (List.mem_of_getElem? (i := 504) (by decide +kernel)) rfl
theorem cX11_160 : Cond.constant RX11 160 (99999) ∈ gW0 := gw_in (List.mem_of_getElem? (i := 506) (by decide +kernel)) rfl
theorem lX11_161 : Cond.methodLink RX11 161 yX9_steps ∈ gW0 := gw_in (List.mem_of_getElem? (i := 507) (by decide +kernel)) rfl
theorem i_X9_steps : Cond.instanceMethod yX9_steps ∈ gW0 := gw_in (List.mem_of_getElem? (i := 508) (by decide +kernel)) rfl
theorem s_X9_steps : Cond.selects yX9_steps.cls yX9_steps yX9_steps ∈ gW0 := gw_in (List.mem_of_getElem? (i := 509) (by decide +kernel)) rfl
theorem lX9_56 : Cond.methodLink RX9 56 yX9_step ∈ gW0 := gw_in (List.mem_of_getElem? (i := 511) (by decide +kernel)) rfl
theorem i_X9_step : Cond.instanceMethod yX9_step ∈ gW0 := gw_in (List.mem_of_getElem? (i := 512) (by decide +kernel)) rfl
theorem s_X9_step : Cond.selects yX9_step.cls yX9_step yX9_step ∈ gW0 := gw_in (List.mem_of_getElem? (i := 513) (by decide +kernel)) rfl
theorem lX9_60 : Cond.methodLink RX9 60 yX7_holding ∈ gW0 := gw_in (List.mem_of_getElem? (i := 515) (by decide +kernel)) rfl
theorem i_X7_holding : Cond.instanceMethod yX7_holding ∈ gW0 := gw_in (List.mem_of_getElem? (i := 516) (by decide +kernel)) rfl
theorem s_X7_holding : Cond.selects yX7_holding.cls yX7_holding yX7_holding ∈ gW0 := gw_in (List.mem_of_getElem? (i := 517) (by decide +kernel)) rfl
theorem lX7_81 : Cond.methodLink RX7 81 yX7_acceptedSeries ∈ gW0 := gw_in (List.mem_of_getElem? (i := 519) (by decide +kernel)) rfl
theorem i_X7_acceptedSeries : Cond.instanceMethod yX7_acceptedSeries ∈ gW0 := gw_in (List.mem_of_getElem? (i := 521) (by decide +kernel)) rfl
theorem lX7_93 : Cond.methodLink RX7 93 yX6_accepts ∈ gW0 := gw_in (List.mem_of_getElem? (i := 523) (by decide +kernel)) rfl
theorem i_X6_accepts : Cond.instanceMethod yX6_accepts ∈ gW0 := gw_in (List.mem_of_getElem? (i := 524) (by decide +kernel)) rfl
theorem s_X6_accepts : Cond.selects yX6_accepts.cls yX6_accepts yX6_accepts ∈ gW0 := gw_in (List.mem_of_getElem? (i := 525) (by decide +kernel)) rfl
theorem lX7_89 : Cond.methodLink RX7 89 yX7_matched ∈ gW0 := gw_in (List.mem_of_getElem? (i := 527) (by decide +kernel)) rfl
theorem i_X7_matched : Cond.instanceMethod yX7_matched ∈ gW0 := gw_in (List.mem_of_getElem? (i := 528) (by decide +kernel)) rfl
theorem s_X7_matched : Cond.selects yX7_matched.cls yX7_matched yX7_matched ∈ gW0 := gw_in (List.mem_of_getElem? (i := 529) (by decide +kernel)) rfl
theorem cX7_67 : Cond.constantLong RX7 67 (1152921504606846975) ∈ gW0 := gw_in (List.mem_of_getElem? (i := 531) (by decide +kernel)) rfl
theorem cX7_79 : Cond.constantLong RX7 79 (-1) ∈ gW0 := gw_in (List.mem_of_getElem? (i := 532) (by decide +kernel)) rfl
theorem lX9_64 : Cond.methodLink RX9 64 yX0_advance ∈ gW0 := gw_in (List.mem_of_getElem? (i := 533) (by decide +kernel)) rfl
theorem i_X0_advance : Cond.instanceMethod yX0_advance ∈ gW0 := gw_in (List.mem_of_getElem? (i := 534) (by decide +kernel)) rfl
theorem s_X0_advance : Cond.selects yX0_advance.cls yX0_advance yX0_advance ∈ gW0 := gw_in (List.mem_of_getElem? (i := 535) (by decide +kernel)) rfl
theorem lX0_34 : Cond.methodLinkNest RX0 34 yX11_has RX11 ∈ gNest := by decide +kernel
theorem i_X11_has : Cond.static yX11_has ∈ gW0 := gw_in (List.mem_of_getElem? (i := 538) (by decide +kernel)) rfl
theorem lX0_42 : Cond.methodLink RX0 42 yX7_waitOf ∈ gW0 := gw_in (List.mem_of_getElem? (i := 540) (by decide +kernel)) rfl
theorem i_X7_waitOf : Cond.instanceMethod yX7_waitOf ∈ gW0 := gw_in (List.mem_of_getElem? (i := 541) (by decide +kernel)) rfl
theorem s_X7_waitOf : Cond.selects yX7_waitOf.cls yX7_waitOf yX7_waitOf ∈ gW0 := gw_in (List.mem_of_getElem? (i := 542) (by decide +kernel)) rfl
theorem lX0_47 : Cond.methodLink RX0 47 yX0_rise ∈ gW0 := gw_in (List.mem_of_getElem? (i := 544) (by decide +kernel)) rfl
theorem i_X0_rise : Cond.instanceMethod yX0_rise ∈ gW0 := gw_in (List.mem_of_getElem? (i := 546) (by decide +kernel)) rfl
theorem lX0_38 : Cond.methodLink RX0 38 yX0_stateOf ∈ gW0 := gw_in (List.mem_of_getElem? (i := 548) (by decide +kernel)) rfl
theorem i_X0_stateOf : Cond.instanceMethod yX0_stateOf ∈ gW0 := gw_in (List.mem_of_getElem? (i := 549) (by decide +kernel)) rfl
theorem s_X0_stateOf : Cond.selects yX0_stateOf.cls yX0_stateOf yX0_stateOf ∈ gW0 := gw_in (List.mem_of_getElem? (i := 550) (by decide +kernel)) rfl
theorem lX0_57 : Cond.methodLink RX0 57 yX0_remember ∈ gW0 := gw_in (List.mem_of_getElem? (i := 552) (by decide +kernel)) rfl
theorem i_X0_remember : Cond.instanceMethod yX0_remember ∈ gW0 := gw_in (List.mem_of_getElem? (i := 554) (by decide +kernel)) rfl
theorem lX0_51 : Cond.methodLink RX0 51 yX0_settle ∈ gW0 := gw_in (List.mem_of_getElem? (i := 556) (by decide +kernel)) rfl
theorem i_X0_settle : Cond.instanceMethod yX0_settle ∈ gW0 := gw_in (List.mem_of_getElem? (i := 558) (by decide +kernel)) rfl
theorem lX9_68 : Cond.methodLink RX9 68 yX9_active ∈ gW0 := gw_in (List.mem_of_getElem? (i := 560) (by decide +kernel)) rfl
theorem i_X9_active : Cond.instanceMethod yX9_active ∈ gW0 := gw_in (List.mem_of_getElem? (i := 561) (by decide +kernel)) rfl
theorem s_X9_active : Cond.selects yX9_active.cls yX9_active yX9_active ∈ gW0 := gw_in (List.mem_of_getElem? (i := 562) (by decide +kernel)) rfl
theorem lX9_108 : Cond.methodLink RX9 108 yX9_silenced ∈ gW0 := gw_in (List.mem_of_getElem? (i := 564) (by decide +kernel)) rfl
theorem i_X9_silenced : Cond.instanceMethod yX9_silenced ∈ gW0 := gw_in (List.mem_of_getElem? (i := 565) (by decide +kernel)) rfl
theorem s_X9_silenced : Cond.selects yX9_silenced.cls yX9_silenced yX9_silenced ∈ gW0 := gw_in (List.mem_of_getElem? (i := 566) (by decide +kernel)) rfl
theorem lX9_138 : Cond.methodLink RX9 138 yX9_silencedBy ∈ gW0 := gw_in (List.mem_of_getElem? (i := 568) (by decide +kernel)) rfl
theorem i_X9_silencedBy : Cond.instanceMethod yX9_silencedBy ∈ gW0 := gw_in (List.mem_of_getElem? (i := 570) (by decide +kernel)) rfl
theorem lX9_124 : Cond.methodLink RX9 124 yX8_isOn ∈ gW0 := gw_in (List.mem_of_getElem? (i := 572) (by decide +kernel)) rfl
theorem i_X8_isOn : Cond.instanceMethod yX8_isOn ∈ gW0 := gw_in (List.mem_of_getElem? (i := 573) (by decide +kernel)) rfl
theorem s_X8_isOn : Cond.selects yX8_isOn.cls yX8_isOn yX8_isOn ∈ gW0 := gw_in (List.mem_of_getElem? (i := 574) (by decide +kernel)) rfl
theorem lX9_134 : Cond.methodLink RX9 134 yX7_matched ∈ gW0 := gw_in (List.mem_of_getElem? (i := 576) (by decide +kernel)) rfl
theorem cX9_111 : Cond.constantLong RX9 111 (-1) ∈ gW0 := gw_in (List.mem_of_getElem? (i := 577) (by decide +kernel)) rfl
theorem lX9_113 : Cond.methodLink RX9 113 yX9_inhibited ∈ gW0 := gw_in (List.mem_of_getElem? (i := 578) (by decide +kernel)) rfl
theorem i_X9_inhibited : Cond.instanceMethod yX9_inhibited ∈ gW0 := gw_in (List.mem_of_getElem? (i := 579) (by decide +kernel)) rfl
theorem s_X9_inhibited : Cond.selects yX9_inhibited.cls yX9_inhibited yX9_inhibited ∈ gW0 := gw_in (List.mem_of_getElem? (i := 580) (by decide +kernel)) rfl
theorem lX9_165 : Cond.methodLink RX9 165 yX9_inhibitedBy ∈ gW0 := gw_in (List.mem_of_getElem? (i := 582) (by decide +kernel)) rfl
theorem i_X9_inhibitedBy : Cond.instanceMethod yX9_inhibitedBy ∈ gW0 := gw_in (List.mem_of_getElem? (i := 584) (by decide +kernel)) rfl
theorem lX9_161 : Cond.methodLink RX9 161 yX7_alike ∈ gW0 := gw_in (List.mem_of_getElem? (i := 586) (by decide +kernel)) rfl
theorem i_X7_alike : Cond.instanceMethod yX7_alike ∈ gW0 := gw_in (List.mem_of_getElem? (i := 587) (by decide +kernel)) rfl
theorem s_X7_alike : Cond.selects yX7_alike.cls yX7_alike yX7_alike ∈ gW0 := gw_in (List.mem_of_getElem? (i := 588) (by decide +kernel)) rfl
theorem lX9_91 : Cond.methodLink RX9 91 yJ13_bitCount_95d88 ∈ gW0 := gw_in (List.mem_of_getElem? (i := 590) (by decide +kernel)) rfl
theorem i_J13_bitCount_95d88 : Cond.static yJ13_bitCount_95d88 ∈ gW0 := gw_in (List.mem_of_getElem? (i := 591) (by decide +kernel)) rfl
theorem cJ13_314 : Cond.constantLong RJ13 314 (6148914691236517205) ∈ gW0 := gw_in (List.mem_of_getElem? (i := 593) (by decide +kernel)) rfl
theorem cJ13_316 : Cond.constantLong RJ13 316 (3689348814741910323) ∈ gW0 := gw_in (List.mem_of_getElem? (i := 594) (by decide +kernel)) rfl
theorem cJ13_318 : Cond.constantLong RJ13 318 (1085102592571150095) ∈ gW0 := gw_in (List.mem_of_getElem? (i := 595) (by decide +kernel)) rfl
theorem cX9_169 : Cond.constantLong RX9 169 (1152921504606846975) ∈ gW0 := gw_in (List.mem_of_getElem? (i := 596) (by decide +kernel)) rfl
theorem cX9_171 : Cond.constantLong RX9 171 (281543712968705) ∈ gW0 := gw_in (List.mem_of_getElem? (i := 597) (by decide +kernel)) rfl
theorem lX9_116 : Cond.methodLink RX9 116 yX9_flapping ∈ gW0 := gw_in (List.mem_of_getElem? (i := 598) (by decide +kernel)) rfl
theorem i_X9_flapping : Cond.instanceMethod yX9_flapping ∈ gW0 := gw_in (List.mem_of_getElem? (i := 599) (by decide +kernel)) rfl
theorem s_X9_flapping : Cond.selects yX9_flapping.cls yX9_flapping yX9_flapping ∈ gW0 := gw_in (List.mem_of_getElem? (i := 600) (by decide +kernel)) rfl
theorem lX9_177 : Cond.methodLink RX9 177 yX9_windowStart ∈ gW0 := gw_in (List.mem_of_getElem? (i := 602) (by decide +kernel)) rfl
theorem i_X9_windowStart : Cond.instanceMethod yX9_windowStart ∈ gW0 := gw_in (List.mem_of_getElem? (i := 603) (by decide +kernel)) rfl
theorem s_X9_windowStart : Cond.selects yX9_windowStart.cls yX9_windowStart yX9_windowStart ∈ gW0 := gw_in (List.mem_of_getElem? (i := 604) (by decide +kernel)) rfl
theorem lX9_180 : Cond.methodLink RX9 180 yX0_flapping ∈ gW0 := gw_in (List.mem_of_getElem? (i := 606) (by decide +kernel)) rfl
theorem i_X0_flapping : Cond.instanceMethod yX0_flapping ∈ gW0 := gw_in (List.mem_of_getElem? (i := 607) (by decide +kernel)) rfl
theorem s_X0_flapping : Cond.selects yX0_flapping.cls yX0_flapping yX0_flapping ∈ gW0 := gw_in (List.mem_of_getElem? (i := 608) (by decide +kernel)) rfl
theorem lX0_60 : Cond.methodLink RX0 60 yX0_transitionsAfter ∈ gW0 := gw_in (List.mem_of_getElem? (i := 610) (by decide +kernel)) rfl
theorem i_X0_transitionsAfter : Cond.instanceMethod yX0_transitionsAfter ∈ gW0 := gw_in (List.mem_of_getElem? (i := 611) (by decide +kernel)) rfl
theorem s_X0_transitionsAfter : Cond.selects yX0_transitionsAfter.cls yX0_transitionsAfter yX0_transitionsAfter ∈ gW0 := gw_in (List.mem_of_getElem? (i := 612) (by decide +kernel)) rfl
theorem lX9_71 : Cond.methodLink RX9 71 yX2_sort ∈ gW0 := gw_in (List.mem_of_getElem? (i := 614) (by decide +kernel)) rfl
theorem i_X2_sort : Cond.instanceMethod yX2_sort ∈ gW0 := gw_in (List.mem_of_getElem? (i := 615) (by decide +kernel)) rfl
theorem s_X2_sort : Cond.selects yX2_sort.cls yX2_sort yX2_sort ∈ gW0 := gw_in (List.mem_of_getElem? (i := 616) (by decide +kernel)) rfl
theorem lX2_32 : Cond.methodLink RX2 32 yX7_keyOf ∈ gW0 := gw_in (List.mem_of_getElem? (i := 618) (by decide +kernel)) rfl
theorem i_X7_keyOf : Cond.instanceMethod yX7_keyOf ∈ gW0 := gw_in (List.mem_of_getElem? (i := 619) (by decide +kernel)) rfl
theorem s_X7_keyOf : Cond.selects yX7_keyOf.cls yX7_keyOf yX7_keyOf ∈ gW0 := gw_in (List.mem_of_getElem? (i := 620) (by decide +kernel)) rfl
theorem cX2_38 : Cond.constantLong RX2 38 (281543712968705) ∈ gW0 := gw_in (List.mem_of_getElem? (i := 622) (by decide +kernel)) rfl
theorem lX9_75 : Cond.methodLink RX9 75 yX2_dueKind ∈ gW0 := gw_in (List.mem_of_getElem? (i := 623) (by decide +kernel)) rfl
theorem i_X2_dueKind : Cond.instanceMethod yX2_dueKind ∈ gW0 := gw_in (List.mem_of_getElem? (i := 624) (by decide +kernel)) rfl
theorem s_X2_dueKind : Cond.selects yX2_dueKind.cls yX2_dueKind yX2_dueKind ∈ gW0 := gw_in (List.mem_of_getElem? (i := 625) (by decide +kernel)) rfl
theorem lX2_42 : Cond.methodLink RX2 42 yX2_newcomers ∈ gW0 := gw_in (List.mem_of_getElem? (i := 627) (by decide +kernel)) rfl
theorem i_X2_newcomers : Cond.instanceMethod yX2_newcomers ∈ gW0 := gw_in (List.mem_of_getElem? (i := 628) (by decide +kernel)) rfl
theorem s_X2_newcomers : Cond.selects yX2_newcomers.cls yX2_newcomers yX2_newcomers ∈ gW0 := gw_in (List.mem_of_getElem? (i := 629) (by decide +kernel)) rfl
theorem cX2_40 : Cond.constantLong RX2 40 (-1) ∈ gW0 := gw_in (List.mem_of_getElem? (i := 631) (by decide +kernel)) rfl
theorem lX9_79 : Cond.methodLink RX9 79 yX9_sendGroup ∈ gW0 := gw_in (List.mem_of_getElem? (i := 632) (by decide +kernel)) rfl
theorem i_X9_sendGroup : Cond.instanceMethod yX9_sendGroup ∈ gW0 := gw_in (List.mem_of_getElem? (i := 634) (by decide +kernel)) rfl
theorem lX9_87 : Cond.methodLink RX9 87 yX2_markSent ∈ gW0 := gw_in (List.mem_of_getElem? (i := 636) (by decide +kernel)) rfl
theorem i_X2_markSent : Cond.instanceMethod yX2_markSent ∈ gW0 := gw_in (List.mem_of_getElem? (i := 637) (by decide +kernel)) rfl
theorem s_X2_markSent : Cond.selects yX2_markSent.cls yX2_markSent yX2_markSent ∈ gW0 := gw_in (List.mem_of_getElem? (i := 638) (by decide +kernel)) rfl
theorem lX9_97 : Cond.methodLink RX9 97 yX7_greatestSeverity ∈ gW0 := gw_in (List.mem_of_getElem? (i := 640) (by decide +kernel)) rfl
theorem i_X7_greatestSeverity : Cond.instanceMethod yX7_greatestSeverity ∈ gW0 := gw_in (List.mem_of_getElem? (i := 641) (by decide +kernel)) rfl
theorem s_X7_greatestSeverity : Cond.selects yX7_greatestSeverity.cls yX7_greatestSeverity yX7_greatestSeverity ∈ gW0 := gw_in (List.mem_of_getElem? (i := 642) (by decide +kernel)) rfl
theorem gX7_100 : Cond.fieldLinkNest RX7 100 RX11 (gSt 1).1 "[I" RX11 ∈ gNest := by decide +kernel
theorem lX9_100 : Cond.methodLink RX9 100 yX4_write ∈ gW0 := gw_in (List.mem_of_getElem? (i := 645) (by decide +kernel)) rfl
theorem i_X4_write : Cond.instanceMethod yX4_write ∈ gW0 := gw_in (List.mem_of_getElem? (i := 646) (by decide +kernel)) rfl
theorem s_X4_write : Cond.selects yX4_write.cls yX4_write yX4_write ∈ gW0 := gw_in (List.mem_of_getElem? (i := 647) (by decide +kernel)) rfl
theorem lL_49 : Cond.methodLink RL 49 yX11_alert ∈ gW0 := gw_in (List.mem_of_getElem? (i := 649) (by decide +kernel)) rfl
theorem i_X11_alert : Cond.instanceMethod yX11_alert ∈ gW0 := gw_in (List.mem_of_getElem? (i := 650) (by decide +kernel)) rfl
theorem s_X11_alert : Cond.selects yX11_alert.cls yX11_alert yX11_alert ∈ gW0 := gw_in (List.mem_of_getElem? (i := 651) (by decide +kernel)) rfl
theorem lX11_169 : Cond.methodLink RX11 169 yX0_stateOf ∈ gW0 := gw_in (List.mem_of_getElem? (i := 653) (by decide +kernel)) rfl
theorem lX11_172 : Cond.methodLink RX11 172 yX0_sinceOf ∈ gW0 := gw_in (List.mem_of_getElem? (i := 654) (by decide +kernel)) rfl
theorem i_X0_sinceOf : Cond.instanceMethod yX0_sinceOf ∈ gW0 := gw_in (List.mem_of_getElem? (i := 655) (by decide +kernel)) rfl
theorem s_X0_sinceOf : Cond.selects yX0_sinceOf.cls yX0_sinceOf yX0_sinceOf ∈ gW0 := gw_in (List.mem_of_getElem? (i := 656) (by decide +kernel)) rfl
theorem lX11_175 : Cond.methodLink RX11 175 yX9_silenced ∈ gW0 := gw_in (List.mem_of_getElem? (i := 658) (by decide +kernel)) rfl
theorem lX11_179 : Cond.methodLink RX11 179 yX11_has ∈ gW0 := gw_in (List.mem_of_getElem? (i := 659) (by decide +kernel)) rfl
theorem lX11_183 : Cond.methodLink RX11 183 yX9_inhibitorsOf ∈ gW0 := gw_in (List.mem_of_getElem? (i := 660) (by decide +kernel)) rfl
theorem i_X9_inhibitorsOf : Cond.instanceMethod yX9_inhibitorsOf ∈ gW0 := gw_in (List.mem_of_getElem? (i := 661) (by decide +kernel)) rfl
theorem s_X9_inhibitorsOf : Cond.selects yX9_inhibitorsOf.cls yX9_inhibitorsOf yX9_inhibitorsOf ∈ gW0 := gw_in (List.mem_of_getElem? (i := 662) (by decide +kernel)) rfl
theorem lX9_142 : Cond.methodLinkNest RX9 142 yX11_has RX11 ∈ gNest := by decide +kernel
theorem cX11_187 : Cond.constantLong RX11 187 (1152921504606846975) ∈ gW0 := gw_in (List.mem_of_getElem? (i := 665) (by decide +kernel)) rfl
theorem lX11_189 : Cond.methodLink RX11 189 yX9_flapping ∈ gW0 := gw_in (List.mem_of_getElem? (i := 666) (by decide +kernel)) rfl
theorem lX11_193 : Cond.methodLink RX11 193 yX9_active ∈ gW0 := gw_in (List.mem_of_getElem? (i := 667) (by decide +kernel)) rfl
theorem lX11_196 : Cond.methodLink RX11 196 yX9_windowStart ∈ gW0 := gw_in (List.mem_of_getElem? (i := 668) (by decide +kernel)) rfl
theorem lX11_200 : Cond.methodLink RX11 200 yX0_transitionsAfter ∈ gW0 := gw_in (List.mem_of_getElem? (i := 669) (by decide +kernel)) rfl
theorem lX11_204 : Cond.methodLink RX11 204 yX7_keyOf ∈ gW0 := gw_in (List.mem_of_getElem? (i := 670) (by decide +kernel)) rfl
theorem lX11_207 : Cond.methodLink RX11 207 yX9_lowestSilenceOf ∈ gW0 := gw_in (List.mem_of_getElem? (i := 671) (by decide +kernel)) rfl
theorem i_X9_lowestSilenceOf : Cond.instanceMethod yX9_lowestSilenceOf ∈ gW0 := gw_in (List.mem_of_getElem? (i := 672) (by decide +kernel)) rfl
theorem s_X9_lowestSilenceOf : Cond.selects yX9_lowestSilenceOf.cls yX9_lowestSilenceOf yX9_lowestSilenceOf ∈ gW0 := gw_in (List.mem_of_getElem? (i := 673) (by decide +kernel)) rfl
theorem lX11_210 : Cond.methodLink RX11 210 yX11_lowest ∈ gW0 := gw_in (List.mem_of_getElem? (i := 675) (by decide +kernel)) rfl
theorem i_X11_lowest : Cond.static yX11_lowest ∈ gW0 := gw_in (List.mem_of_getElem? (i := 676) (by decide +kernel)) rfl
theorem lX11_301 : Cond.methodLink RX11 301 yJ13_numberOfTrailingZeros_95d88 ∈ gW0 := gw_in (List.mem_of_getElem? (i := 678) (by decide +kernel)) rfl
theorem i_J13_numberOfTrailingZeros_95d88 : Cond.static yJ13_numberOfTrailingZeros_95d88 ∈ gW0 := gw_in (List.mem_of_getElem? (i := 679) (by decide +kernel)) rfl
theorem lJ13_311 : Cond.methodLink RJ13 311 yJ6_numberOfTrailingZeros_0f7a4 ∈ gW0 := gw_in (List.mem_of_getElem? (i := 681) (by decide +kernel)) rfl
theorem i_J6_numberOfTrailingZeros_0f7a4 : Cond.static yJ6_numberOfTrailingZeros_0f7a4 ∈ gW0 := gw_in (List.mem_of_getElem? (i := 682) (by decide +kernel)) rfl
theorem cJ6_264 : Cond.constant RJ6 264 (65536) ∈ gW0 := gw_in (List.mem_of_getElem? (i := 684) (by decide +kernel)) rfl
theorem lX11_214 : Cond.methodLink RX11 214 yX7_holding ∈ gW0 := gw_in (List.mem_of_getElem? (i := 685) (by decide +kernel)) rfl
theorem lL_53 : Cond.methodLink RL 53 yX11_alerts ∈ gW0 := gw_in (List.mem_of_getElem? (i := 686) (by decide +kernel)) rfl
theorem i_X11_alerts : Cond.instanceMethod yX11_alerts ∈ gW0 := gw_in (List.mem_of_getElem? (i := 687) (by decide +kernel)) rfl
theorem s_X11_alerts : Cond.selects yX11_alerts.cls yX11_alerts yX11_alerts ∈ gW0 := gw_in (List.mem_of_getElem? (i := 688) (by decide +kernel)) rfl
theorem lX11_224 : Cond.methodLink RX11 224 yX9_inhibited ∈ gW0 := gw_in (List.mem_of_getElem? (i := 690) (by decide +kernel)) rfl
theorem cX11_227 : Cond.constantLong RX11 227 (-1) ∈ gW0 := gw_in (List.mem_of_getElem? (i := 691) (by decide +kernel)) rfl
theorem lL_58 : Cond.methodLink RL 58 yX11_group ∈ gW0 := gw_in (List.mem_of_getElem? (i := 692) (by decide +kernel)) rfl
theorem i_X11_group : Cond.instanceMethod yX11_group ∈ gW0 := gw_in (List.mem_of_getElem? (i := 693) (by decide +kernel)) rfl
theorem s_X11_group : Cond.selects yX11_group.cls yX11_group yX11_group ∈ gW0 := gw_in (List.mem_of_getElem? (i := 694) (by decide +kernel)) rfl
theorem lX11_229 : Cond.methodLink RX11 229 yX2_sort ∈ gW0 := gw_in (List.mem_of_getElem? (i := 696) (by decide +kernel)) rfl
theorem lX11_243 : Cond.methodLink RX11 243 yJ13_bitCount_95d88 ∈ gW0 := gw_in (List.mem_of_getElem? (i := 697) (by decide +kernel)) rfl
theorem lX11_248 : Cond.methodLink RX11 248 yX2_newcomers ∈ gW0 := gw_in (List.mem_of_getElem? (i := 698) (by decide +kernel)) rfl
theorem lX11_251 : Cond.methodLink RX11 251 yX2_nextMinute ∈ gW0 := gw_in (List.mem_of_getElem? (i := 699) (by decide +kernel)) rfl
theorem i_X2_nextMinute : Cond.instanceMethod yX2_nextMinute ∈ gW0 := gw_in (List.mem_of_getElem? (i := 700) (by decide +kernel)) rfl
theorem s_X2_nextMinute : Cond.selects yX2_nextMinute.cls yX2_nextMinute yX2_nextMinute ∈ gW0 := gw_in (List.mem_of_getElem? (i := 701) (by decide +kernel)) rfl
theorem lX2_49 : Cond.methodLink RX2 49 yJ9_min_7cf53 ∈ gW0 := gw_in (List.mem_of_getElem? (i := 703) (by decide +kernel)) rfl
theorem i_J9_min_7cf53 : Cond.static yJ9_min_7cf53 ∈ gW0 := gw_in (List.mem_of_getElem? (i := 704) (by decide +kernel)) rfl
theorem lX2_55 : Cond.methodLink RX2 55 yJ9_max_7cf53 ∈ gW0 := gw_in (List.mem_of_getElem? (i := 706) (by decide +kernel)) rfl
theorem i_J9_max_7cf53 : Cond.static yJ9_max_7cf53 ∈ gW0 := gw_in (List.mem_of_getElem? (i := 707) (by decide +kernel)) rfl
theorem lL_62 : Cond.methodLink RL 62 yX11_key ∈ gW0 := gw_in (List.mem_of_getElem? (i := 709) (by decide +kernel)) rfl
theorem i_X11_key : Cond.instanceMethod yX11_key ∈ gW0 := gw_in (List.mem_of_getElem? (i := 710) (by decide +kernel)) rfl
theorem s_X11_key : Cond.selects yX11_key.cls yX11_key yX11_key ∈ gW0 := gw_in (List.mem_of_getElem? (i := 711) (by decide +kernel)) rfl
theorem lX11_255 : Cond.methodLink RX11 255 yX2_countNonEmpty ∈ gW0 := gw_in (List.mem_of_getElem? (i := 713) (by decide +kernel)) rfl
theorem i_X2_countNonEmpty : Cond.instanceMethod yX2_countNonEmpty ∈ gW0 := gw_in (List.mem_of_getElem? (i := 714) (by decide +kernel)) rfl
theorem s_X2_countNonEmpty : Cond.selects yX2_countNonEmpty.cls yX2_countNonEmpty yX2_countNonEmpty ∈ gW0 := gw_in (List.mem_of_getElem? (i := 715) (by decide +kernel)) rfl
theorem lX11_258 : Cond.methodLink RX11 258 yX2_keyAt ∈ gW0 := gw_in (List.mem_of_getElem? (i := 717) (by decide +kernel)) rfl
theorem i_X2_keyAt : Cond.instanceMethod yX2_keyAt ∈ gW0 := gw_in (List.mem_of_getElem? (i := 718) (by decide +kernel)) rfl
theorem s_X2_keyAt : Cond.selects yX2_keyAt.cls yX2_keyAt yX2_keyAt ∈ gW0 := gw_in (List.mem_of_getElem? (i := 719) (by decide +kernel)) rfl
theorem lL_66 : Cond.methodLink RL 66 yX11_sent ∈ gW0 := gw_in (List.mem_of_getElem? (i := 721) (by decide +kernel)) rfl
theorem i_X11_sent : Cond.instanceMethod yX11_sent ∈ gW0 := gw_in (List.mem_of_getElem? (i := 722) (by decide +kernel)) rfl
theorem s_X11_sent : Cond.selects yX11_sent.cls yX11_sent yX11_sent ∈ gW0 := gw_in (List.mem_of_getElem? (i := 723) (by decide +kernel)) rfl
theorem lX11_265 : Cond.methodLink RX11 265 yX4_keeps ∈ gW0 := gw_in (List.mem_of_getElem? (i := 725) (by decide +kernel)) rfl
theorem i_X4_keeps : Cond.instanceMethod yX4_keeps ∈ gW0 := gw_in (List.mem_of_getElem? (i := 726) (by decide +kernel)) rfl
theorem s_X4_keeps : Cond.selects yX4_keeps.cls yX4_keeps yX4_keeps ∈ gW0 := gw_in (List.mem_of_getElem? (i := 727) (by decide +kernel)) rfl
theorem lX11_270 : Cond.methodLink RX11 270 yX4_read ∈ gW0 := gw_in (List.mem_of_getElem? (i := 729) (by decide +kernel)) rfl
theorem i_X4_read : Cond.instanceMethod yX4_read ∈ gW0 := gw_in (List.mem_of_getElem? (i := 730) (by decide +kernel)) rfl
theorem s_X4_read : Cond.selects yX4_read.cls yX4_read yX4_read ∈ gW0 := gw_in (List.mem_of_getElem? (i := 731) (by decide +kernel)) rfl
theorem lL_70 : Cond.methodLink RL 70 yX11_ahead ∈ gW0 := gw_in (List.mem_of_getElem? (i := 733) (by decide +kernel)) rfl
theorem i_X11_ahead : Cond.instanceMethod yX11_ahead ∈ gW0 := gw_in (List.mem_of_getElem? (i := 734) (by decide +kernel)) rfl
theorem s_X11_ahead : Cond.selects yX11_ahead.cls yX11_ahead yX11_ahead ∈ gW0 := gw_in (List.mem_of_getElem? (i := 735) (by decide +kernel)) rfl
theorem lX11_273 : Cond.methodLink RX11 273 yX9_copyFrom ∈ gW0 := gw_in (List.mem_of_getElem? (i := 737) (by decide +kernel)) rfl
theorem i_X9_copyFrom : Cond.instanceMethod yX9_copyFrom ∈ gW0 := gw_in (List.mem_of_getElem? (i := 738) (by decide +kernel)) rfl
theorem s_X9_copyFrom : Cond.selects yX9_copyFrom.cls yX9_copyFrom yX9_copyFrom ∈ gW0 := gw_in (List.mem_of_getElem? (i := 739) (by decide +kernel)) rfl
theorem lX9_43 : Cond.methodLink RX9 43 yX7_copyFrom ∈ gW0 := gw_in (List.mem_of_getElem? (i := 741) (by decide +kernel)) rfl
theorem i_X7_copyFrom : Cond.instanceMethod yX7_copyFrom ∈ gW0 := gw_in (List.mem_of_getElem? (i := 742) (by decide +kernel)) rfl
theorem s_X7_copyFrom : Cond.selects yX7_copyFrom.cls yX7_copyFrom yX7_copyFrom ∈ gW0 := gw_in (List.mem_of_getElem? (i := 743) (by decide +kernel)) rfl
theorem aX7_50 : Cond.methodLink RX7 50 arraycopyName ∈ gW0 := gw_in (List.mem_of_getElem? (i := 745) (by decide +kernel)) rfl
theorem lX9_47 : Cond.methodLink RX9 47 yX0_copyFrom ∈ gW0 := gw_in (List.mem_of_getElem? (i := 748) (by decide +kernel)) rfl
theorem i_X0_copyFrom : Cond.instanceMethod yX0_copyFrom ∈ gW0 := gw_in (List.mem_of_getElem? (i := 749) (by decide +kernel)) rfl
theorem s_X0_copyFrom : Cond.selects yX0_copyFrom.cls yX0_copyFrom yX0_copyFrom ∈ gW0 := gw_in (List.mem_of_getElem? (i := 750) (by decide +kernel)) rfl
theorem aX0_28 : Cond.methodLink RX0 28 arraycopyName ∈ gW0 := gw_in (List.mem_of_getElem? (i := 752) (by decide +kernel)) rfl
theorem lX9_50 : Cond.methodLink RX9 50 yX2_copyFrom ∈ gW0 := gw_in (List.mem_of_getElem? (i := 753) (by decide +kernel)) rfl
theorem i_X2_copyFrom : Cond.instanceMethod yX2_copyFrom ∈ gW0 := gw_in (List.mem_of_getElem? (i := 754) (by decide +kernel)) rfl
theorem s_X2_copyFrom : Cond.selects yX2_copyFrom.cls yX2_copyFrom yX2_copyFrom ∈ gW0 := gw_in (List.mem_of_getElem? (i := 755) (by decide +kernel)) rfl
theorem aX2_26 : Cond.methodLink RX2 26 arraycopyName ∈ gW0 := gw_in (List.mem_of_getElem? (i := 757) (by decide +kernel)) rfl
theorem lX9_53 : Cond.methodLink RX9 53 yX4_copyFrom ∈ gW0 := gw_in (List.mem_of_getElem? (i := 758) (by decide +kernel)) rfl
theorem i_X4_copyFrom : Cond.instanceMethod yX4_copyFrom ∈ gW0 := gw_in (List.mem_of_getElem? (i := 759) (by decide +kernel)) rfl
theorem s_X4_copyFrom : Cond.selects yX4_copyFrom.cls yX4_copyFrom yX4_copyFrom ∈ gW0 := gw_in (List.mem_of_getElem? (i := 760) (by decide +kernel)) rfl
theorem aX4_17 : Cond.methodLink RX4 17 arraycopyName ∈ gW0 := gw_in (List.mem_of_getElem? (i := 762) (by decide +kernel)) rfl
theorem lL_74 : Cond.methodLink RL 74 yX11_next ∈ gW0 := gw_in (List.mem_of_getElem? (i := 763) (by decide +kernel)) rfl
theorem i_X11_next : Cond.instanceMethod yX11_next ∈ gW0 := gw_in (List.mem_of_getElem? (i := 764) (by decide +kernel)) rfl
theorem s_X11_next : Cond.selects yX11_next.cls yX11_next yX11_next ∈ gW0 := gw_in (List.mem_of_getElem? (i := 765) (by decide +kernel)) rfl
theorem lX11_277 : Cond.methodLink RX11 277 yX9_step ∈ gW0 := gw_in (List.mem_of_getElem? (i := 767) (by decide +kernel)) rfl
theorem lL_78 : Cond.methodLink RL 78 yX11_saved ∈ gW0 := gw_in (List.mem_of_getElem? (i := 768) (by decide +kernel)) rfl
theorem i_X11_saved : Cond.instanceMethod yX11_saved ∈ gW0 := gw_in (List.mem_of_getElem? (i := 769) (by decide +kernel)) rfl
theorem s_X11_saved : Cond.selects yX11_saved.cls yX11_saved yX11_saved ∈ gW0 := gw_in (List.mem_of_getElem? (i := 770) (by decide +kernel)) rfl
theorem lL_82 : Cond.methodLink RL 82 yX11_image ∈ gW0 := gw_in (List.mem_of_getElem? (i := 772) (by decide +kernel)) rfl
theorem i_X11_image : Cond.instanceMethod yX11_image ∈ gW0 := gw_in (List.mem_of_getElem? (i := 773) (by decide +kernel)) rfl
theorem s_X11_image : Cond.selects yX11_image.cls yX11_image yX11_image ∈ gW0 := gw_in (List.mem_of_getElem? (i := 774) (by decide +kernel)) rfl
theorem lL_87 : Cond.methodLink RL 87 yX11_undo ∈ gW0 := gw_in (List.mem_of_getElem? (i := 776) (by decide +kernel)) rfl
theorem i_X11_undo : Cond.instanceMethod yX11_undo ∈ gW0 := gw_in (List.mem_of_getElem? (i := 777) (by decide +kernel)) rfl
theorem s_X11_undo : Cond.selects yX11_undo.cls yX11_undo yX11_undo ∈ gW0 := gw_in (List.mem_of_getElem? (i := 778) (by decide +kernel)) rfl
theorem lL_91 : Cond.methodLink RL 91 yX11_count ∈ gW0 := gw_in (List.mem_of_getElem? (i := 780) (by decide +kernel)) rfl
theorem i_X11_count : Cond.instanceMethod yX11_count ∈ gW0 := gw_in (List.mem_of_getElem? (i := 781) (by decide +kernel)) rfl
theorem s_X11_count : Cond.selects yX11_count.cls yX11_count yX11_count ∈ gW0 := gw_in (List.mem_of_getElem? (i := 782) (by decide +kernel)) rfl
theorem lX11_283 : Cond.methodLink RX11 283 yX7_countValues ∈ gW0 := gw_in (List.mem_of_getElem? (i := 784) (by decide +kernel)) rfl
theorem i_X7_countValues : Cond.instanceMethod yX7_countValues ∈ gW0 := gw_in (List.mem_of_getElem? (i := 785) (by decide +kernel)) rfl
theorem s_X7_countValues : Cond.selects yX7_countValues.cls yX7_countValues yX7_countValues ∈ gW0 := gw_in (List.mem_of_getElem? (i := 786) (by decide +kernel)) rfl
theorem lX11_289 : Cond.methodLink RX11 289 yX2_countOpen ∈ gW0 := gw_in (List.mem_of_getElem? (i := 788) (by decide +kernel)) rfl
theorem i_X2_countOpen : Cond.instanceMethod yX2_countOpen ∈ gW0 := gw_in (List.mem_of_getElem? (i := 789) (by decide +kernel)) rfl
theorem s_X2_countOpen : Cond.selects yX2_countOpen.cls yX2_countOpen yX2_countOpen ∈ gW0 := gw_in (List.mem_of_getElem? (i := 790) (by decide +kernel)) rfl
theorem lX11_292 : Cond.methodLink RX11 292 yX7_greatestSeverity ∈ gW0 := gw_in (List.mem_of_getElem? (i := 792) (by decide +kernel)) rfl
theorem lX11_295 : Cond.methodLink RX11 295 yX9_countSilencesInUse ∈ gW0 := gw_in (List.mem_of_getElem? (i := 793) (by decide +kernel)) rfl
theorem i_X9_countSilencesInUse : Cond.instanceMethod yX9_countSilencesInUse ∈ gW0 := gw_in (List.mem_of_getElem? (i := 794) (by decide +kernel)) rfl
theorem s_X9_countSilencesInUse : Cond.selects yX9_countSilencesInUse.cls yX9_countSilencesInUse yX9_countSilencesInUse ∈ gW0 := gw_in (List.mem_of_getElem? (i := 795) (by decide +kernel)) rfl
theorem lX11_298 : Cond.methodLink RX11 298 yX11_parameterOrNone ∈ gW0 := gw_in (List.mem_of_getElem? (i := 797) (by decide +kernel)) rfl
theorem i_X11_parameterOrNone : Cond.instanceMethod yX11_parameterOrNone ∈ gW0 := gw_in (List.mem_of_getElem? (i := 799) (by decide +kernel)) rfl
theorem kL_10 : Cond.classLink RL 10 RX12 ∈ gW0 := gw_in (List.mem_of_getElem? (i := 801) (by decide +kernel)) rfl
theorem nL_10 : gCls RL 10 11 12 [.null, .null, .null, .null, .null, .null, .int 0, .null, .int 0, .int 0, .int 0, .null] := ⟨RX12, TX12, tyX12, rfl, w_X12, tyX12_ok, kL_10, gw_in (List.mem_of_getElem? (i := 802) (by decide +kernel)) rfl, gw_in (List.mem_of_getElem? (i := 61) (by decide +kernel)) rfl, fun j hj => by rcases (show j = 0 ∨ j = 1 ∨ j = 2 ∨ j = 3 ∨ j = 4 ∨ j = 5 ∨ j = 6 ∨ j = 7 ∨ j = 8 ∨ j = 9 ∨ j = 10 ∨ j = 11 by omega) with rfl | rfl | rfl | rfl | rfl | rfl | rfl | rfl | rfl | rfl | rfl | rfl <;> rfl⟩
theorem lL_12 : Cond.methodLink RL 12 yX12_init ∈ gW0 := gw_in (List.mem_of_getElem? (i := 803) (by decide +kernel)) rfl
theorem i_X12_init : Cond.instanceMethod yX12_init ∈ gW0 := gw_in (List.mem_of_getElem? (i := 804) (by decide +kernel)) rfl
theorem oX12_3 : Cond.methodLink RX12 3 objectInit ∈ gW0 := gw_in (List.mem_of_getElem? (i := 806) (by decide +kernel)) rfl
theorem fX12_9 : gFld RX12 9 11 0 (.array .int) true := ⟨RX12, TX12, 12, tyX12, rfl, w_X12, tyX12_ok, nmX12, by decide, gw_in (List.mem_of_getElem? (i := 807) (by decide +kernel)) rfl, rfl, rfl, rfl⟩
theorem fX12_13 : gFld RX12 13 11 1 (.array .int) true := ⟨RX12, TX12, 12, tyX12, rfl, w_X12, tyX12_ok, nmX12, by decide, gw_in (List.mem_of_getElem? (i := 808) (by decide +kernel)) rfl, rfl, rfl, rfl⟩
theorem fX12_16 : gFld RX12 16 11 2 (.array .int) true := ⟨RX12, TX12, 12, tyX12, rfl, w_X12, tyX12_ok, nmX12, by decide, gw_in (List.mem_of_getElem? (i := 809) (by decide +kernel)) rfl, rfl, rfl, rfl⟩
theorem fX12_19 : gFld RX12 19 11 3 (.array .long) true := ⟨RX12, TX12, 12, tyX12, rfl, w_X12, tyX12_ok, nmX12, by decide, gw_in (List.mem_of_getElem? (i := 810) (by decide +kernel)) rfl, rfl, rfl, rfl⟩
theorem fX12_23 : gFld RX12 23 11 4 (.array .long) true := ⟨RX12, TX12, 12, tyX12, rfl, w_X12, tyX12_ok, nmX12, by decide, gw_in (List.mem_of_getElem? (i := 811) (by decide +kernel)) rfl, rfl, rfl, rfl⟩
theorem fX12_26 : gFld RX12 26 11 5 (.array .long) true := ⟨RX12, TX12, 12, tyX12, rfl, w_X12, tyX12_ok, nmX12, by decide, gw_in (List.mem_of_getElem? (i := 812) (by decide +kernel)) rfl, rfl, rfl, rfl⟩
theorem fX12_180 : gFld RX12 180 11 6 .boolean false := ⟨RX12, TX12, 12, tyX12, rfl, w_X12, tyX12_ok, nmX12, by decide, gw_in (List.mem_of_getElem? (i := 813) (by decide +kernel)) rfl, rfl, rfl, rfl⟩
theorem fX12_29 : gFld RX12 29 11 7 (.array .int) true := ⟨RX12, TX12, 12, tyX12, rfl, w_X12, tyX12_ok, nmX12, by decide, gw_in (List.mem_of_getElem? (i := 814) (by decide +kernel)) rfl, rfl, rfl, rfl⟩
theorem fX12_39 : gFld RX12 39 11 8 .int false := ⟨RX12, TX12, 12, tyX12, rfl, w_X12, tyX12_ok, nmX12, by decide, gw_in (List.mem_of_getElem? (i := 815) (by decide +kernel)) rfl, rfl, rfl, rfl⟩
theorem fX12_43 : gFld RX12 43 11 9 .int false := ⟨RX12, TX12, 12, tyX12, rfl, w_X12, tyX12_ok, nmX12, by decide, gw_in (List.mem_of_getElem? (i := 816) (by decide +kernel)) rfl, rfl, rfl, rfl⟩
theorem fX12_46 : gFld RX12 46 11 10 .boolean false := ⟨RX12, TX12, 12, tyX12, rfl, w_X12, tyX12_ok, nmX12, by decide, gw_in (List.mem_of_getElem? (i := 817) (by decide +kernel)) rfl, rfl, rfl, rfl⟩
theorem fX12_32 : gFld RX12 32 11 11 (.array .int) true := ⟨RX12, TX12, 12, tyX12, rfl, w_X12, tyX12_ok, nmX12, by decide, gw_in (List.mem_of_getElem? (i := 818) (by decide +kernel)) rfl, rfl, rfl, rfl⟩
theorem lL_17 : Cond.methodLink RL 17 yX12_label ∈ gW0 := gw_in (List.mem_of_getElem? (i := 844) (by decide +kernel)) rfl
theorem i_X12_label : Cond.instanceMethod yX12_label ∈ gW0 := gw_in (List.mem_of_getElem? (i := 845) (by decide +kernel)) rfl
theorem s_X12_label : Cond.selects yX12_label.cls yX12_label yX12_label ∈ gW0 := gw_in (List.mem_of_getElem? (i := 846) (by decide +kernel)) rfl
theorem lX12_35 : Cond.methodLink RX12 35 yX12_isIn ∈ gW0 := gw_in (List.mem_of_getElem? (i := 848) (by decide +kernel)) rfl
theorem i_X12_isIn : Cond.static yX12_isIn ∈ gW0 := gw_in (List.mem_of_getElem? (i := 849) (by decide +kernel)) rfl
theorem lL_22 : Cond.methodLink RL 22 yX12_sample ∈ gW0 := gw_in (List.mem_of_getElem? (i := 851) (by decide +kernel)) rfl
theorem i_X12_sample : Cond.instanceMethod yX12_sample ∈ gW0 := gw_in (List.mem_of_getElem? (i := 852) (by decide +kernel)) rfl
theorem s_X12_sample : Cond.selects yX12_sample.cls yX12_sample yX12_sample ∈ gW0 := gw_in (List.mem_of_getElem? (i := 853) (by decide +kernel)) rfl
theorem lL_27 : Cond.methodLink RL 27 yX12_drop ∈ gW0 := gw_in (List.mem_of_getElem? (i := 855) (by decide +kernel)) rfl
theorem i_X12_drop : Cond.instanceMethod yX12_drop ∈ gW0 := gw_in (List.mem_of_getElem? (i := 856) (by decide +kernel)) rfl
theorem s_X12_drop : Cond.selects yX12_drop.cls yX12_drop yX12_drop ∈ gW0 := gw_in (List.mem_of_getElem? (i := 857) (by decide +kernel)) rfl
theorem lL_32 : Cond.methodLink RL 32 yX12_feed ∈ gW0 := gw_in (List.mem_of_getElem? (i := 859) (by decide +kernel)) rfl
theorem i_X12_feed : Cond.instanceMethod yX12_feed ∈ gW0 := gw_in (List.mem_of_getElem? (i := 860) (by decide +kernel)) rfl
theorem s_X12_feed : Cond.selects yX12_feed.cls yX12_feed yX12_feed ∈ gW0 := gw_in (List.mem_of_getElem? (i := 861) (by decide +kernel)) rfl
theorem lL_36 : Cond.methodLink RL 36 yX12_add ∈ gW0 := gw_in (List.mem_of_getElem? (i := 863) (by decide +kernel)) rfl
theorem i_X12_add : Cond.instanceMethod yX12_add ∈ gW0 := gw_in (List.mem_of_getElem? (i := 864) (by decide +kernel)) rfl
theorem s_X12_add : Cond.selects yX12_add.cls yX12_add yX12_add ∈ gW0 := gw_in (List.mem_of_getElem? (i := 865) (by decide +kernel)) rfl
theorem lX12_86 : Cond.methodLink RX12 86 yX12_many ∈ gW0 := gw_in (List.mem_of_getElem? (i := 867) (by decide +kernel)) rfl
theorem i_X12_many : Cond.instanceMethod yX12_many ∈ gW0 := gw_in (List.mem_of_getElem? (i := 869) (by decide +kernel)) rfl
theorem lX12_73 : Cond.methodLink RX12 73 yX12_most ∈ gW0 := gw_in (List.mem_of_getElem? (i := 871) (by decide +kernel)) rfl
theorem i_X12_most : Cond.static yX12_most ∈ gW0 := gw_in (List.mem_of_getElem? (i := 872) (by decide +kernel)) rfl
theorem lX12_82 : Cond.methodLink RX12 82 yX12_isOne ∈ gW0 := gw_in (List.mem_of_getElem? (i := 874) (by decide +kernel)) rfl
theorem i_X12_isOne : Cond.instanceMethod yX12_isOne ∈ gW0 := gw_in (List.mem_of_getElem? (i := 876) (by decide +kernel)) rfl
theorem lX12_76 : Cond.methodLink RX12 76 yX12_first ∈ gW0 := gw_in (List.mem_of_getElem? (i := 878) (by decide +kernel)) rfl
theorem i_X12_first : Cond.static yX12_first ∈ gW0 := gw_in (List.mem_of_getElem? (i := 879) (by decide +kernel)) rfl
theorem lX12_79 : Cond.methodLink RX12 79 yX12_wide ∈ gW0 := gw_in (List.mem_of_getElem? (i := 881) (by decide +kernel)) rfl
theorem i_X12_wide : Cond.static yX12_wide ∈ gW0 := gw_in (List.mem_of_getElem? (i := 882) (by decide +kernel)) rfl
theorem lX12_89 : Cond.methodLink RX12 89 yX12_rule ∈ gW0 := gw_in (List.mem_of_getElem? (i := 884) (by decide +kernel)) rfl
theorem i_X12_rule : Cond.instanceMethod yX12_rule ∈ gW0 := gw_in (List.mem_of_getElem? (i := 886) (by decide +kernel)) rfl
theorem lX12_50 : Cond.methodLink RX12 50 yX12_here ∈ gW0 := gw_in (List.mem_of_getElem? (i := 888) (by decide +kernel)) rfl
theorem i_X12_here : Cond.instanceMethod yX12_here ∈ gW0 := gw_in (List.mem_of_getElem? (i := 890) (by decide +kernel)) rfl
theorem lX12_62 : Cond.methodLink RX12 62 yX12_matchers ∈ gW0 := gw_in (List.mem_of_getElem? (i := 892) (by decide +kernel)) rfl
theorem i_X12_matchers : Cond.instanceMethod yX12_matchers ∈ gW0 := gw_in (List.mem_of_getElem? (i := 894) (by decide +kernel)) rfl
theorem lX12_58 : Cond.methodLink RX12 58 yX12_matcher ∈ gW0 := gw_in (List.mem_of_getElem? (i := 896) (by decide +kernel)) rfl
theorem i_X12_matcher : Cond.instanceMethod yX12_matcher ∈ gW0 := gw_in (List.mem_of_getElem? (i := 898) (by decide +kernel)) rfl
theorem lX12_54 : Cond.methodLink RX12 54 yX12_digit ∈ gW0 := gw_in (List.mem_of_getElem? (i := 900) (by decide +kernel)) rfl
theorem i_X12_digit : Cond.instanceMethod yX12_digit ∈ gW0 := gw_in (List.mem_of_getElem? (i := 902) (by decide +kernel)) rfl
theorem lX12_66 : Cond.methodLink RX12 66 yX12_sign ∈ gW0 := gw_in (List.mem_of_getElem? (i := 904) (by decide +kernel)) rfl
theorem i_X12_sign : Cond.instanceMethod yX12_sign ∈ gW0 := gw_in (List.mem_of_getElem? (i := 906) (by decide +kernel)) rfl
theorem lX12_70 : Cond.methodLink RX12 70 yX12_number ∈ gW0 := gw_in (List.mem_of_getElem? (i := 908) (by decide +kernel)) rfl
theorem i_X12_number : Cond.instanceMethod yX12_number ∈ gW0 := gw_in (List.mem_of_getElem? (i := 910) (by decide +kernel)) rfl
theorem lX12_92 : Cond.methodLink RX12 92 yX12_silence ∈ gW0 := gw_in (List.mem_of_getElem? (i := 912) (by decide +kernel)) rfl
theorem i_X12_silence : Cond.instanceMethod yX12_silence ∈ gW0 := gw_in (List.mem_of_getElem? (i := 914) (by decide +kernel)) rfl
theorem lX12_95 : Cond.methodLink RX12 95 yX12_inhibition ∈ gW0 := gw_in (List.mem_of_getElem? (i := 916) (by decide +kernel)) rfl
theorem i_X12_inhibition : Cond.instanceMethod yX12_inhibition ∈ gW0 := gw_in (List.mem_of_getElem? (i := 918) (by decide +kernel)) rfl
theorem lL_40 : Cond.methodLink RL 40 yX12_remove ∈ gW0 := gw_in (List.mem_of_getElem? (i := 920) (by decide +kernel)) rfl
theorem i_X12_remove : Cond.instanceMethod yX12_remove ∈ gW0 := gw_in (List.mem_of_getElem? (i := 921) (by decide +kernel)) rfl
theorem s_X12_remove : Cond.selects yX12_remove.cls yX12_remove yX12_remove ∈ gW0 := gw_in (List.mem_of_getElem? (i := 922) (by decide +kernel)) rfl
theorem lL_44 : Cond.methodLink RL 44 yX12_parameter ∈ gW0 := gw_in (List.mem_of_getElem? (i := 924) (by decide +kernel)) rfl
theorem i_X12_parameter : Cond.instanceMethod yX12_parameter ∈ gW0 := gw_in (List.mem_of_getElem? (i := 925) (by decide +kernel)) rfl
theorem s_X12_parameter : Cond.selects yX12_parameter.cls yX12_parameter yX12_parameter ∈ gW0 := gw_in (List.mem_of_getElem? (i := 926) (by decide +kernel)) rfl
theorem lL_48 : Cond.methodLink RL 48 yX12_pass ∈ gW0 := gw_in (List.mem_of_getElem? (i := 928) (by decide +kernel)) rfl
theorem i_X12_pass : Cond.instanceMethod yX12_pass ∈ gW0 := gw_in (List.mem_of_getElem? (i := 929) (by decide +kernel)) rfl
theorem s_X12_pass : Cond.selects yX12_pass.cls yX12_pass yX12_pass ∈ gW0 := gw_in (List.mem_of_getElem? (i := 930) (by decide +kernel)) rfl
theorem cX12_162 : Cond.constant RX12 162 (99999) ∈ gW0 := gw_in (List.mem_of_getElem? (i := 932) (by decide +kernel)) rfl
theorem lX12_163 : Cond.methodLink RX12 163 yX12_step ∈ gW0 := gw_in (List.mem_of_getElem? (i := 933) (by decide +kernel)) rfl
theorem i_X12_step : Cond.instanceMethod yX12_step ∈ gW0 := gw_in (List.mem_of_getElem? (i := 935) (by decide +kernel)) rfl
theorem lX12_145 : Cond.methodLink RX12 145 yX12_goesOn ∈ gW0 := gw_in (List.mem_of_getElem? (i := 937) (by decide +kernel)) rfl
theorem i_X12_goesOn : Cond.instanceMethod yX12_goesOn ∈ gW0 := gw_in (List.mem_of_getElem? (i := 939) (by decide +kernel)) rfl
theorem lX12_132 : Cond.methodLink RX12 132 yX12_holds ∈ gW0 := gw_in (List.mem_of_getElem? (i := 941) (by decide +kernel)) rfl
theorem i_X12_holds : Cond.instanceMethod yX12_holds ∈ gW0 := gw_in (List.mem_of_getElem? (i := 943) (by decide +kernel)) rfl
theorem lX12_98 : Cond.methodLink RX12 98 yX12_matches ∈ gW0 := gw_in (List.mem_of_getElem? (i := 945) (by decide +kernel)) rfl
theorem i_X12_matches : Cond.instanceMethod yX12_matches ∈ gW0 := gw_in (List.mem_of_getElem? (i := 947) (by decide +kernel)) rfl
theorem lX12_135 : Cond.methodLink RX12 135 yX12_turns ∈ gW0 := gw_in (List.mem_of_getElem? (i := 949) (by decide +kernel)) rfl
theorem i_X12_turns : Cond.instanceMethod yX12_turns ∈ gW0 := gw_in (List.mem_of_getElem? (i := 951) (by decide +kernel)) rfl
theorem lX12_148 : Cond.methodLink RX12 148 yX12_actives ∈ gW0 := gw_in (List.mem_of_getElem? (i := 953) (by decide +kernel)) rfl
theorem i_X12_actives : Cond.instanceMethod yX12_actives ∈ gW0 := gw_in (List.mem_of_getElem? (i := 955) (by decide +kernel)) rfl
theorem lX12_123 : Cond.methodLink RX12 123 yX12_isActive ∈ gW0 := gw_in (List.mem_of_getElem? (i := 957) (by decide +kernel)) rfl
theorem i_X12_isActive : Cond.instanceMethod yX12_isActive ∈ gW0 := gw_in (List.mem_of_getElem? (i := 959) (by decide +kernel)) rfl
theorem lX12_104 : Cond.methodLink RX12 104 yX12_state ∈ gW0 := gw_in (List.mem_of_getElem? (i := 961) (by decide +kernel)) rfl
theorem i_X12_state : Cond.instanceMethod yX12_state ∈ gW0 := gw_in (List.mem_of_getElem? (i := 963) (by decide +kernel)) rfl
theorem lX12_113 : Cond.methodLink RX12 113 yX12_silenceOf ∈ gW0 := gw_in (List.mem_of_getElem? (i := 965) (by decide +kernel)) rfl
theorem i_X12_silenceOf : Cond.instanceMethod yX12_silenceOf ∈ gW0 := gw_in (List.mem_of_getElem? (i := 967) (by decide +kernel)) rfl
theorem lX12_101 : Cond.methodLink RX12 101 yX12_isSilencedBy ∈ gW0 := gw_in (List.mem_of_getElem? (i := 969) (by decide +kernel)) rfl
theorem i_X12_isSilencedBy : Cond.instanceMethod yX12_isSilencedBy ∈ gW0 := gw_in (List.mem_of_getElem? (i := 971) (by decide +kernel)) rfl
theorem lX12_116 : Cond.methodLink RX12 116 yX12_isFlapping ∈ gW0 := gw_in (List.mem_of_getElem? (i := 973) (by decide +kernel)) rfl
theorem i_X12_isFlapping : Cond.instanceMethod yX12_isFlapping ∈ gW0 := gw_in (List.mem_of_getElem? (i := 975) (by decide +kernel)) rfl
theorem lX12_110 : Cond.methodLink RX12 110 yX12_flaps ∈ gW0 := gw_in (List.mem_of_getElem? (i := 977) (by decide +kernel)) rfl
theorem i_X12_flaps : Cond.instanceMethod yX12_flaps ∈ gW0 := gw_in (List.mem_of_getElem? (i := 979) (by decide +kernel)) rfl
theorem lX12_120 : Cond.methodLink RX12 120 yX12_inhibitorOf ∈ gW0 := gw_in (List.mem_of_getElem? (i := 981) (by decide +kernel)) rfl
theorem i_X12_inhibitorOf : Cond.instanceMethod yX12_inhibitorOf ∈ gW0 := gw_in (List.mem_of_getElem? (i := 983) (by decide +kernel)) rfl
theorem lX12_107 : Cond.methodLink RX12 107 yX12_isInhibitedBy ∈ gW0 := gw_in (List.mem_of_getElem? (i := 985) (by decide +kernel)) rfl
theorem i_X12_isInhibitedBy : Cond.instanceMethod yX12_isInhibitedBy ∈ gW0 := gw_in (List.mem_of_getElem? (i := 987) (by decide +kernel)) rfl
theorem lX12_152 : Cond.methodLink RX12 152 yX12_withKey ∈ gW0 := gw_in (List.mem_of_getElem? (i := 989) (by decide +kernel)) rfl
theorem i_X12_withKey : Cond.instanceMethod yX12_withKey ∈ gW0 := gw_in (List.mem_of_getElem? (i := 991) (by decide +kernel)) rfl
theorem lX12_126 : Cond.methodLink RX12 126 yX12_keyOf ∈ gW0 := gw_in (List.mem_of_getElem? (i := 993) (by decide +kernel)) rfl
theorem i_X12_keyOf : Cond.instanceMethod yX12_keyOf ∈ gW0 := gw_in (List.mem_of_getElem? (i := 995) (by decide +kernel)) rfl
theorem lX12_156 : Cond.methodLink RX12 156 yX12_sends ∈ gW0 := gw_in (List.mem_of_getElem? (i := 997) (by decide +kernel)) rfl
theorem i_X12_sends : Cond.instanceMethod yX12_sends ∈ gW0 := gw_in (List.mem_of_getElem? (i := 999) (by decide +kernel)) rfl
theorem lX12_138 : Cond.methodLink RX12 138 yX12_size ∈ gW0 := gw_in (List.mem_of_getElem? (i := 1001) (by decide +kernel)) rfl
theorem i_X12_size : Cond.static yX12_size ∈ gW0 := gw_in (List.mem_of_getElem? (i := 1002) (by decide +kernel)) rfl
theorem lX12_142 : Cond.methodLink RX12 142 yX12_greatest ∈ gW0 := gw_in (List.mem_of_getElem? (i := 1004) (by decide +kernel)) rfl
theorem i_X12_greatest : Cond.instanceMethod yX12_greatest ∈ gW0 := gw_in (List.mem_of_getElem? (i := 1006) (by decide +kernel)) rfl
theorem lX12_129 : Cond.methodLink RX12 129 yX12_severity ∈ gW0 := gw_in (List.mem_of_getElem? (i := 1008) (by decide +kernel)) rfl
theorem i_X12_severity : Cond.instanceMethod yX12_severity ∈ gW0 := gw_in (List.mem_of_getElem? (i := 1010) (by decide +kernel)) rfl
theorem cX12_160 : Cond.constantLong RX12 160 (-1) ∈ gW0 := gw_in (List.mem_of_getElem? (i := 1012) (by decide +kernel)) rfl
theorem lL_52 : Cond.methodLink RL 52 yX12_alert ∈ gW0 := gw_in (List.mem_of_getElem? (i := 1013) (by decide +kernel)) rfl
theorem i_X12_alert : Cond.instanceMethod yX12_alert ∈ gW0 := gw_in (List.mem_of_getElem? (i := 1014) (by decide +kernel)) rfl
theorem s_X12_alert : Cond.selects yX12_alert.cls yX12_alert yX12_alert ∈ gW0 := gw_in (List.mem_of_getElem? (i := 1015) (by decide +kernel)) rfl
theorem lL_57 : Cond.methodLink RL 57 yX12_alerts ∈ gW0 := gw_in (List.mem_of_getElem? (i := 1017) (by decide +kernel)) rfl
theorem i_X12_alerts : Cond.instanceMethod yX12_alerts ∈ gW0 := gw_in (List.mem_of_getElem? (i := 1018) (by decide +kernel)) rfl
theorem s_X12_alerts : Cond.selects yX12_alerts.cls yX12_alerts yX12_alerts ∈ gW0 := gw_in (List.mem_of_getElem? (i := 1019) (by decide +kernel)) rfl
theorem lX12_166 : Cond.methodLink RX12 166 yX12_isOf ∈ gW0 := gw_in (List.mem_of_getElem? (i := 1021) (by decide +kernel)) rfl
theorem i_X12_isOf : Cond.instanceMethod yX12_isOf ∈ gW0 := gw_in (List.mem_of_getElem? (i := 1023) (by decide +kernel)) rfl
theorem lL_61 : Cond.methodLink RL 61 yX12_group ∈ gW0 := gw_in (List.mem_of_getElem? (i := 1025) (by decide +kernel)) rfl
theorem i_X12_group : Cond.instanceMethod yX12_group ∈ gW0 := gw_in (List.mem_of_getElem? (i := 1026) (by decide +kernel)) rfl
theorem s_X12_group : Cond.selects yX12_group.cls yX12_group yX12_group ∈ gW0 := gw_in (List.mem_of_getElem? (i := 1027) (by decide +kernel)) rfl
theorem lX12_169 : Cond.methodLink RX12 169 yX12_later ∈ gW0 := gw_in (List.mem_of_getElem? (i := 1029) (by decide +kernel)) rfl
theorem i_X12_later : Cond.instanceMethod yX12_later ∈ gW0 := gw_in (List.mem_of_getElem? (i := 1031) (by decide +kernel)) rfl
theorem lL_65 : Cond.methodLink RL 65 yX12_key ∈ gW0 := gw_in (List.mem_of_getElem? (i := 1033) (by decide +kernel)) rfl
theorem i_X12_key : Cond.instanceMethod yX12_key ∈ gW0 := gw_in (List.mem_of_getElem? (i := 1034) (by decide +kernel)) rfl
theorem s_X12_key : Cond.selects yX12_key.cls yX12_key yX12_key ∈ gW0 := gw_in (List.mem_of_getElem? (i := 1035) (by decide +kernel)) rfl
theorem lL_69 : Cond.methodLink RL 69 yX12_sent ∈ gW0 := gw_in (List.mem_of_getElem? (i := 1037) (by decide +kernel)) rfl
theorem i_X12_sent : Cond.instanceMethod yX12_sent ∈ gW0 := gw_in (List.mem_of_getElem? (i := 1038) (by decide +kernel)) rfl
theorem s_X12_sent : Cond.selects yX12_sent.cls yX12_sent yX12_sent ∈ gW0 := gw_in (List.mem_of_getElem? (i := 1039) (by decide +kernel)) rfl
theorem lL_73 : Cond.methodLink RL 73 yX12_ahead ∈ gW0 := gw_in (List.mem_of_getElem? (i := 1041) (by decide +kernel)) rfl
theorem i_X12_ahead : Cond.instanceMethod yX12_ahead ∈ gW0 := gw_in (List.mem_of_getElem? (i := 1042) (by decide +kernel)) rfl
theorem s_X12_ahead : Cond.selects yX12_ahead.cls yX12_ahead yX12_ahead ∈ gW0 := gw_in (List.mem_of_getElem? (i := 1043) (by decide +kernel)) rfl
theorem lX12_176 : Cond.methodLink RX12 176 yX12_looks ∈ gW0 := gw_in (List.mem_of_getElem? (i := 1045) (by decide +kernel)) rfl
theorem i_X12_looks : Cond.instanceMethod yX12_looks ∈ gW0 := gw_in (List.mem_of_getElem? (i := 1047) (by decide +kernel)) rfl
theorem lX12_172 : Cond.methodLink RX12 172 yX12_copies ∈ gW0 := gw_in (List.mem_of_getElem? (i := 1049) (by decide +kernel)) rfl
theorem i_X12_copies : Cond.static yX12_copies ∈ gW0 := gw_in (List.mem_of_getElem? (i := 1050) (by decide +kernel)) rfl
theorem lL_77 : Cond.methodLink RL 77 yX12_next ∈ gW0 := gw_in (List.mem_of_getElem? (i := 1052) (by decide +kernel)) rfl
theorem i_X12_next : Cond.instanceMethod yX12_next ∈ gW0 := gw_in (List.mem_of_getElem? (i := 1053) (by decide +kernel)) rfl
theorem s_X12_next : Cond.selects yX12_next.cls yX12_next yX12_next ∈ gW0 := gw_in (List.mem_of_getElem? (i := 1054) (by decide +kernel)) rfl
theorem lL_81 : Cond.methodLink RL 81 yX12_saved ∈ gW0 := gw_in (List.mem_of_getElem? (i := 1056) (by decide +kernel)) rfl
theorem i_X12_saved : Cond.instanceMethod yX12_saved ∈ gW0 := gw_in (List.mem_of_getElem? (i := 1057) (by decide +kernel)) rfl
theorem s_X12_saved : Cond.selects yX12_saved.cls yX12_saved yX12_saved ∈ gW0 := gw_in (List.mem_of_getElem? (i := 1058) (by decide +kernel)) rfl
theorem lL_86 : Cond.methodLink RL 86 yX12_image ∈ gW0 := gw_in (List.mem_of_getElem? (i := 1060) (by decide +kernel)) rfl
theorem i_X12_image : Cond.instanceMethod yX12_image ∈ gW0 := gw_in (List.mem_of_getElem? (i := 1061) (by decide +kernel)) rfl
theorem s_X12_image : Cond.selects yX12_image.cls yX12_image yX12_image ∈ gW0 := gw_in (List.mem_of_getElem? (i := 1062) (by decide +kernel)) rfl
theorem lL_90 : Cond.methodLink RL 90 yX12_undo ∈ gW0 := gw_in (List.mem_of_getElem? (i := 1064) (by decide +kernel)) rfl
theorem i_X12_undo : Cond.instanceMethod yX12_undo ∈ gW0 := gw_in (List.mem_of_getElem? (i := 1065) (by decide +kernel)) rfl
theorem s_X12_undo : Cond.selects yX12_undo.cls yX12_undo yX12_undo ∈ gW0 := gw_in (List.mem_of_getElem? (i := 1066) (by decide +kernel)) rfl
theorem lL_94 : Cond.methodLink RL 94 yX12_count ∈ gW0 := gw_in (List.mem_of_getElem? (i := 1068) (by decide +kernel)) rfl
theorem i_X12_count : Cond.instanceMethod yX12_count ∈ gW0 := gw_in (List.mem_of_getElem? (i := 1069) (by decide +kernel)) rfl
theorem s_X12_count : Cond.selects yX12_count.cls yX12_count yX12_count ∈ gW0 := gw_in (List.mem_of_getElem? (i := 1070) (by decide +kernel)) rfl
theorem lX12_183 : Cond.methodLink RX12 183 yX12_silencing ∈ gW0 := gw_in (List.mem_of_getElem? (i := 1072) (by decide +kernel)) rfl
theorem i_X12_silencing : Cond.instanceMethod yX12_silencing ∈ gW0 := gw_in (List.mem_of_getElem? (i := 1074) (by decide +kernel)) rfl
theorem s_X7_sortLabels : Cond.selects yX7_sortLabels.cls yX7_sortLabels yX7_sortLabels ∈ gW0 := gw_in (List.mem_of_getElem? (i := 0) (by decide +kernel)) rfl
theorem s_X10_startsRuleSign : Cond.selects yX10_startsRuleSign.cls yX10_startsRuleSign yX10_startsRuleSign ∈ gW0 := gw_in (List.mem_of_getElem? (i := 1) (by decide +kernel)) rfl
theorem s_X10_peek : Cond.selects yX10_peek.cls yX10_peek yX10_peek ∈ gW0 := gw_in (List.mem_of_getElem? (i := 2) (by decide +kernel)) rfl
theorem s_X10_readMatchersAhead : Cond.selects yX10_readMatchersAhead.cls yX10_readMatchersAhead yX10_readMatchersAhead ∈ gW0 := gw_in (List.mem_of_getElem? (i := 3) (by decide +kernel)) rfl
theorem s_X10_readMatchers : Cond.selects yX10_readMatchers.cls yX10_readMatchers yX10_readMatchers ∈ gW0 := gw_in (List.mem_of_getElem? (i := 4) (by decide +kernel)) rfl
theorem s_X10_readMatcher : Cond.selects yX10_readMatcher.cls yX10_readMatcher yX10_readMatcher ∈ gW0 := gw_in (List.mem_of_getElem? (i := 5) (by decide +kernel)) rfl
theorem s_X10_skip : Cond.selects yX10_skip.cls yX10_skip yX10_skip ∈ gW0 := gw_in (List.mem_of_getElem? (i := 6) (by decide +kernel)) rfl
theorem s_X10_readDigit : Cond.selects yX10_readDigit.cls yX10_readDigit yX10_readDigit ∈ gW0 := gw_in (List.mem_of_getElem? (i := 7) (by decide +kernel)) rfl
theorem s_X10_expect : Cond.selects yX10_expect.cls yX10_expect yX10_expect ∈ gW0 := gw_in (List.mem_of_getElem? (i := 8) (by decide +kernel)) rfl
theorem s_X10_readNumber : Cond.selects yX10_readNumber.cls yX10_readNumber yX10_readNumber ∈ gW0 := gw_in (List.mem_of_getElem? (i := 9) (by decide +kernel)) rfl
theorem s_X10_expectEnd : Cond.selects yX10_expectEnd.cls yX10_expectEnd yX10_expectEnd ∈ gW0 := gw_in (List.mem_of_getElem? (i := 10) (by decide +kernel)) rfl
theorem s_X7_acceptedSeries : Cond.selects yX7_acceptedSeries.cls yX7_acceptedSeries yX7_acceptedSeries ∈ gW0 := gw_in (List.mem_of_getElem? (i := 11) (by decide +kernel)) rfl
theorem s_X0_rise : Cond.selects yX0_rise.cls yX0_rise yX0_rise ∈ gW0 := gw_in (List.mem_of_getElem? (i := 12) (by decide +kernel)) rfl
theorem s_X0_remember : Cond.selects yX0_remember.cls yX0_remember yX0_remember ∈ gW0 := gw_in (List.mem_of_getElem? (i := 13) (by decide +kernel)) rfl
theorem s_X0_settle : Cond.selects yX0_settle.cls yX0_settle yX0_settle ∈ gW0 := gw_in (List.mem_of_getElem? (i := 14) (by decide +kernel)) rfl
theorem s_X9_silencedBy : Cond.selects yX9_silencedBy.cls yX9_silencedBy yX9_silencedBy ∈ gW0 := gw_in (List.mem_of_getElem? (i := 15) (by decide +kernel)) rfl
theorem s_X9_inhibitedBy : Cond.selects yX9_inhibitedBy.cls yX9_inhibitedBy yX9_inhibitedBy ∈ gW0 := gw_in (List.mem_of_getElem? (i := 16) (by decide +kernel)) rfl
theorem s_X9_sendGroup : Cond.selects yX9_sendGroup.cls yX9_sendGroup yX9_sendGroup ∈ gW0 := gw_in (List.mem_of_getElem? (i := 17) (by decide +kernel)) rfl
theorem s_X11_parameterOrNone : Cond.selects yX11_parameterOrNone.cls yX11_parameterOrNone yX11_parameterOrNone ∈ gW0 := gw_in (List.mem_of_getElem? (i := 18) (by decide +kernel)) rfl
theorem s_X12_many : Cond.selects yX12_many.cls yX12_many yX12_many ∈ gW0 := gw_in (List.mem_of_getElem? (i := 19) (by decide +kernel)) rfl
theorem s_X12_isOne : Cond.selects yX12_isOne.cls yX12_isOne yX12_isOne ∈ gW0 := gw_in (List.mem_of_getElem? (i := 20) (by decide +kernel)) rfl
theorem s_X12_rule : Cond.selects yX12_rule.cls yX12_rule yX12_rule ∈ gW0 := gw_in (List.mem_of_getElem? (i := 21) (by decide +kernel)) rfl
theorem s_X12_here : Cond.selects yX12_here.cls yX12_here yX12_here ∈ gW0 := gw_in (List.mem_of_getElem? (i := 22) (by decide +kernel)) rfl
theorem s_X12_matchers : Cond.selects yX12_matchers.cls yX12_matchers yX12_matchers ∈ gW0 := gw_in (List.mem_of_getElem? (i := 23) (by decide +kernel)) rfl
theorem s_X12_matcher : Cond.selects yX12_matcher.cls yX12_matcher yX12_matcher ∈ gW0 := gw_in (List.mem_of_getElem? (i := 24) (by decide +kernel)) rfl
theorem s_X12_digit : Cond.selects yX12_digit.cls yX12_digit yX12_digit ∈ gW0 := gw_in (List.mem_of_getElem? (i := 25) (by decide +kernel)) rfl
theorem s_X12_sign : Cond.selects yX12_sign.cls yX12_sign yX12_sign ∈ gW0 := gw_in (List.mem_of_getElem? (i := 26) (by decide +kernel)) rfl
theorem s_X12_number : Cond.selects yX12_number.cls yX12_number yX12_number ∈ gW0 := gw_in (List.mem_of_getElem? (i := 27) (by decide +kernel)) rfl
theorem s_X12_silence : Cond.selects yX12_silence.cls yX12_silence yX12_silence ∈ gW0 := gw_in (List.mem_of_getElem? (i := 28) (by decide +kernel)) rfl
theorem s_X12_inhibition : Cond.selects yX12_inhibition.cls yX12_inhibition yX12_inhibition ∈ gW0 := gw_in (List.mem_of_getElem? (i := 29) (by decide +kernel)) rfl
theorem s_X12_step : Cond.selects yX12_step.cls yX12_step yX12_step ∈ gW0 := gw_in (List.mem_of_getElem? (i := 30) (by decide +kernel)) rfl
theorem s_X12_goesOn : Cond.selects yX12_goesOn.cls yX12_goesOn yX12_goesOn ∈ gW0 := gw_in (List.mem_of_getElem? (i := 31) (by decide +kernel)) rfl
theorem s_X12_holds : Cond.selects yX12_holds.cls yX12_holds yX12_holds ∈ gW0 := gw_in (List.mem_of_getElem? (i := 32) (by decide +kernel)) rfl
theorem s_X12_matches : Cond.selects yX12_matches.cls yX12_matches yX12_matches ∈ gW0 := gw_in (List.mem_of_getElem? (i := 33) (by decide +kernel)) rfl
theorem s_X12_turns : Cond.selects yX12_turns.cls yX12_turns yX12_turns ∈ gW0 := gw_in (List.mem_of_getElem? (i := 34) (by decide +kernel)) rfl
theorem s_X12_actives : Cond.selects yX12_actives.cls yX12_actives yX12_actives ∈ gW0 := gw_in (List.mem_of_getElem? (i := 35) (by decide +kernel)) rfl
theorem s_X12_isActive : Cond.selects yX12_isActive.cls yX12_isActive yX12_isActive ∈ gW0 := gw_in (List.mem_of_getElem? (i := 36) (by decide +kernel)) rfl
theorem s_X12_state : Cond.selects yX12_state.cls yX12_state yX12_state ∈ gW0 := gw_in (List.mem_of_getElem? (i := 37) (by decide +kernel)) rfl
theorem s_X12_silenceOf : Cond.selects yX12_silenceOf.cls yX12_silenceOf yX12_silenceOf ∈ gW0 := gw_in (List.mem_of_getElem? (i := 38) (by decide +kernel)) rfl
theorem s_X12_isSilencedBy : Cond.selects yX12_isSilencedBy.cls yX12_isSilencedBy yX12_isSilencedBy ∈ gW0 := gw_in (List.mem_of_getElem? (i := 39) (by decide +kernel)) rfl
theorem s_X12_isFlapping : Cond.selects yX12_isFlapping.cls yX12_isFlapping yX12_isFlapping ∈ gW0 := gw_in (List.mem_of_getElem? (i := 40) (by decide +kernel)) rfl
theorem s_X12_flaps : Cond.selects yX12_flaps.cls yX12_flaps yX12_flaps ∈ gW0 := gw_in (List.mem_of_getElem? (i := 41) (by decide +kernel)) rfl
theorem s_X12_inhibitorOf : Cond.selects yX12_inhibitorOf.cls yX12_inhibitorOf yX12_inhibitorOf ∈ gW0 := gw_in (List.mem_of_getElem? (i := 42) (by decide +kernel)) rfl
theorem s_X12_isInhibitedBy : Cond.selects yX12_isInhibitedBy.cls yX12_isInhibitedBy yX12_isInhibitedBy ∈ gW0 := gw_in (List.mem_of_getElem? (i := 43) (by decide +kernel)) rfl
theorem s_X12_withKey : Cond.selects yX12_withKey.cls yX12_withKey yX12_withKey ∈ gW0 := gw_in (List.mem_of_getElem? (i := 44) (by decide +kernel)) rfl
theorem s_X12_keyOf : Cond.selects yX12_keyOf.cls yX12_keyOf yX12_keyOf ∈ gW0 := gw_in (List.mem_of_getElem? (i := 45) (by decide +kernel)) rfl
theorem s_X12_sends : Cond.selects yX12_sends.cls yX12_sends yX12_sends ∈ gW0 := gw_in (List.mem_of_getElem? (i := 46) (by decide +kernel)) rfl
theorem s_X12_greatest : Cond.selects yX12_greatest.cls yX12_greatest yX12_greatest ∈ gW0 := gw_in (List.mem_of_getElem? (i := 47) (by decide +kernel)) rfl
theorem s_X12_severity : Cond.selects yX12_severity.cls yX12_severity yX12_severity ∈ gW0 := gw_in (List.mem_of_getElem? (i := 48) (by decide +kernel)) rfl
theorem s_X12_isOf : Cond.selects yX12_isOf.cls yX12_isOf yX12_isOf ∈ gW0 := gw_in (List.mem_of_getElem? (i := 49) (by decide +kernel)) rfl
theorem s_X12_later : Cond.selects yX12_later.cls yX12_later yX12_later ∈ gW0 := gw_in (List.mem_of_getElem? (i := 50) (by decide +kernel)) rfl
theorem s_X12_looks : Cond.selects yX12_looks.cls yX12_looks yX12_looks ∈ gW0 := gw_in (List.mem_of_getElem? (i := 51) (by decide +kernel)) rfl
theorem s_X12_silencing : Cond.selects yX12_silencing.cls yX12_silencing yX12_silencing ∈ gW0 := gw_in (List.mem_of_getElem? (i := 52) (by decide +kernel)) rfl
theorem b_X11_init : gLkB kX11_init 0 := ⟨gw_in (List.mem_of_getElem? (i := 75) (by decide +kernel)) rfl, gw_in (List.mem_of_getElem? (i := 54) (by decide +kernel)) rfl, by decide +kernel, by decide⟩
theorem b_X10_init : gLkB kX10_init 0 := ⟨gw_in (List.mem_of_getElem? (i := 83) (by decide +kernel)) rfl, gw_in (List.mem_of_getElem? (i := 55) (by decide +kernel)) rfl, by decide +kernel, by decide⟩
theorem b_X9_init : gLkB kX9_init 0 := ⟨gw_in (List.mem_of_getElem? (i := 106) (by decide +kernel)) rfl, gw_in (List.mem_of_getElem? (i := 56) (by decide +kernel)) rfl, by decide +kernel, by decide⟩
theorem b_X7_init : gLkB kX7_init 0 := ⟨gw_in (List.mem_of_getElem? (i := 112) (by decide +kernel)) rfl, gw_in (List.mem_of_getElem? (i := 57) (by decide +kernel)) rfl, by decide +kernel, by decide⟩
theorem b_X7_sortLabels : gLkB kX7_sortLabels 0 := ⟨gw_in (List.mem_of_getElem? (i := 123) (by decide +kernel)) rfl, gw_in (List.mem_of_getElem? (i := 57) (by decide +kernel)) rfl, by decide +kernel, by decide⟩
theorem b_X0_init : gLkB kX0_init 0 := ⟨gw_in (List.mem_of_getElem? (i := 169) (by decide +kernel)) rfl, gw_in (List.mem_of_getElem? (i := 58) (by decide +kernel)) rfl, by decide +kernel, by decide⟩
theorem b_X2_init : gLkB kX2_init 0 := ⟨gw_in (List.mem_of_getElem? (i := 194) (by decide +kernel)) rfl, gw_in (List.mem_of_getElem? (i := 59) (by decide +kernel)) rfl, by decide +kernel, by decide⟩
theorem b_X4_init : gLkB kX4_init 0 := ⟨gw_in (List.mem_of_getElem? (i := 217) (by decide +kernel)) rfl, gw_in (List.mem_of_getElem? (i := 60) (by decide +kernel)) rfl, by decide +kernel, by decide⟩
theorem b_X11_label : gLkB kX11_label 3 := ⟨gw_in (List.mem_of_getElem? (i := 267) (by decide +kernel)) rfl, gw_in (List.mem_of_getElem? (i := 54) (by decide +kernel)) rfl, by decide +kernel, by decide⟩
theorem b_X11_isSeries : gLkB kX11_isSeries 1 := ⟨gw_in (List.mem_of_getElem? (i := 270) (by decide +kernel)) rfl, gw_in (List.mem_of_getElem? (i := 54) (by decide +kernel)) rfl, by decide +kernel, by decide⟩
theorem b_X7_relabel : gLkB kX7_relabel 3 := ⟨gw_in (List.mem_of_getElem? (i := 276) (by decide +kernel)) rfl, gw_in (List.mem_of_getElem? (i := 57) (by decide +kernel)) rfl, by decide +kernel, by decide⟩
theorem b_X11_sample : gLkB kX11_sample 2 := ⟨gw_in (List.mem_of_getElem? (i := 280) (by decide +kernel)) rfl, gw_in (List.mem_of_getElem? (i := 54) (by decide +kernel)) rfl, by decide +kernel, by decide⟩
theorem b_X11_bit : gLkB kX11_bit 1 := ⟨gw_in (List.mem_of_getElem? (i := 283) (by decide +kernel)) rfl, gw_in (List.mem_of_getElem? (i := 54) (by decide +kernel)) rfl, by decide +kernel, by decide⟩
theorem b_X11_drop : gLkB kX11_drop 1 := ⟨gw_in (List.mem_of_getElem? (i := 287) (by decide +kernel)) rfl, gw_in (List.mem_of_getElem? (i := 54) (by decide +kernel)) rfl, by decide +kernel, by decide⟩
theorem b_X11_feed : gLkB kX11_feed 6 := ⟨gw_in (List.mem_of_getElem? (i := 291) (by decide +kernel)) rfl, gw_in (List.mem_of_getElem? (i := 54) (by decide +kernel)) rfl, by decide +kernel, by decide⟩
theorem b_X11_isByte : gLkB kX11_isByte 1 := ⟨gw_in (List.mem_of_getElem? (i := 294) (by decide +kernel)) rfl, gw_in (List.mem_of_getElem? (i := 54) (by decide +kernel)) rfl, by decide +kernel, by decide⟩
theorem b_X10_hasRoomFor : gLkB kX10_hasRoomFor 1 := ⟨gw_in (List.mem_of_getElem? (i := 298) (by decide +kernel)) rfl, gw_in (List.mem_of_getElem? (i := 55) (by decide +kernel)) rfl, by decide +kernel, by decide⟩
theorem b_X10_append : gLkB kX10_append 1 := ⟨gw_in (List.mem_of_getElem? (i := 302) (by decide +kernel)) rfl, gw_in (List.mem_of_getElem? (i := 55) (by decide +kernel)) rfl, by decide +kernel, by decide⟩
theorem b_X11_add : gLkB kX11_add 1 := ⟨gw_in (List.mem_of_getElem? (i := 306) (by decide +kernel)) rfl, gw_in (List.mem_of_getElem? (i := 54) (by decide +kernel)) rfl, by decide +kernel, by decide⟩
theorem b_X11_isKind : gLkB kX11_isKind 1 := ⟨gw_in (List.mem_of_getElem? (i := 309) (by decide +kernel)) rfl, gw_in (List.mem_of_getElem? (i := 54) (by decide +kernel)) rfl, by decide +kernel, by decide⟩
theorem b_X7_slots : gLkB kX7_slots 1 := ⟨gw_in (List.mem_of_getElem? (i := 313) (by decide +kernel)) rfl, gw_in (List.mem_of_getElem? (i := 57) (by decide +kernel)) rfl, by decide +kernel, by decide⟩
theorem b_X11_lowestFree : gLkB kX11_lowestFree 1 := ⟨gw_in (List.mem_of_getElem? (i := 316) (by decide +kernel)) rfl, gw_in (List.mem_of_getElem? (i := 54) (by decide +kernel)) rfl, by decide +kernel, by decide⟩
theorem b_X10_rewind : gLkB kX10_rewind 0 := ⟨gw_in (List.mem_of_getElem? (i := 320) (by decide +kernel)) rfl, gw_in (List.mem_of_getElem? (i := 55) (by decide +kernel)) rfl, by decide +kernel, by decide⟩
theorem b_X10_readRule : gLkB kX10_readRule 0 := ⟨gw_in (List.mem_of_getElem? (i := 324) (by decide +kernel)) rfl, gw_in (List.mem_of_getElem? (i := 55) (by decide +kernel)) rfl, by decide +kernel, by decide⟩
theorem b_X10_startsRuleSign : gLkB kX10_startsRuleSign 0 := ⟨gw_in (List.mem_of_getElem? (i := 328) (by decide +kernel)) rfl, gw_in (List.mem_of_getElem? (i := 55) (by decide +kernel)) rfl, by decide +kernel, by decide⟩
theorem b_X10_peek : gLkB kX10_peek 0 := ⟨gw_in (List.mem_of_getElem? (i := 332) (by decide +kernel)) rfl, gw_in (List.mem_of_getElem? (i := 55) (by decide +kernel)) rfl, by decide +kernel, by decide⟩
theorem b_X5_init : gLkB kX5_init 0 := ⟨gw_in (List.mem_of_getElem? (i := 337) (by decide +kernel)) rfl, gw_in (List.mem_of_getElem? (i := 62) (by decide +kernel)) rfl, by decide +kernel, by decide⟩
theorem b_X10_readMatchersAhead : gLkB kX10_readMatchersAhead 0 := ⟨gw_in (List.mem_of_getElem? (i := 357) (by decide +kernel)) rfl, gw_in (List.mem_of_getElem? (i := 55) (by decide +kernel)) rfl, by decide +kernel, by decide⟩
theorem b_X10_readMatchers : gLkB kX10_readMatchers 1 := ⟨gw_in (List.mem_of_getElem? (i := 361) (by decide +kernel)) rfl, gw_in (List.mem_of_getElem? (i := 55) (by decide +kernel)) rfl, by decide +kernel, by decide⟩
theorem b_X10_readMatcher : gLkB kX10_readMatcher 2 := ⟨gw_in (List.mem_of_getElem? (i := 365) (by decide +kernel)) rfl, gw_in (List.mem_of_getElem? (i := 55) (by decide +kernel)) rfl, by decide +kernel, by decide⟩
theorem b_X10_skip : gLkB kX10_skip 1 := ⟨gw_in (List.mem_of_getElem? (i := 369) (by decide +kernel)) rfl, gw_in (List.mem_of_getElem? (i := 55) (by decide +kernel)) rfl, by decide +kernel, by decide⟩
theorem b_X10_labelOf : gLkB kX10_labelOf 1 := ⟨gw_in (List.mem_of_getElem? (i := 372) (by decide +kernel)) rfl, gw_in (List.mem_of_getElem? (i := 55) (by decide +kernel)) rfl, by decide +kernel, by decide⟩
theorem b_X10_readDigit : gLkB kX10_readDigit 1 := ⟨gw_in (List.mem_of_getElem? (i := 377) (by decide +kernel)) rfl, gw_in (List.mem_of_getElem? (i := 55) (by decide +kernel)) rfl, by decide +kernel, by decide⟩
theorem b_X10_expect : gLkB kX10_expect 1 := ⟨gw_in (List.mem_of_getElem? (i := 382) (by decide +kernel)) rfl, gw_in (List.mem_of_getElem? (i := 55) (by decide +kernel)) rfl, by decide +kernel, by decide⟩
theorem b_X10_readNumber : gLkB kX10_readNumber 0 := ⟨gw_in (List.mem_of_getElem? (i := 386) (by decide +kernel)) rfl, gw_in (List.mem_of_getElem? (i := 55) (by decide +kernel)) rfl, by decide +kernel, by decide⟩
theorem b_X10_expectEnd : gLkB kX10_expectEnd 0 := ⟨gw_in (List.mem_of_getElem? (i := 390) (by decide +kernel)) rfl, gw_in (List.mem_of_getElem? (i := 55) (by decide +kernel)) rfl, by decide +kernel, by decide⟩
theorem b_X6_init : gLkB kX6_init 5 := ⟨gw_in (List.mem_of_getElem? (i := 395) (by decide +kernel)) rfl, gw_in (List.mem_of_getElem? (i := 64) (by decide +kernel)) rfl, by decide +kernel, by decide⟩
theorem b_X1_init : gLkB kX1_init 0 := ⟨gw_in (List.mem_of_getElem? (i := 398) (by decide +kernel)) rfl, gw_in (List.mem_of_getElem? (i := 63) (by decide +kernel)) rfl, by decide +kernel, by decide⟩
theorem b_X7_putRule : gLkB kX7_putRule 2 := ⟨gw_in (List.mem_of_getElem? (i := 422) (by decide +kernel)) rfl, gw_in (List.mem_of_getElem? (i := 57) (by decide +kernel)) rfl, by decide +kernel, by decide⟩
theorem b_X10_readSilence : gLkB kX10_readSilence 0 := ⟨gw_in (List.mem_of_getElem? (i := 426) (by decide +kernel)) rfl, gw_in (List.mem_of_getElem? (i := 55) (by decide +kernel)) rfl, by decide +kernel, by decide⟩
theorem b_X8_init : gLkB kX8_init 3 := ⟨gw_in (List.mem_of_getElem? (i := 431) (by decide +kernel)) rfl, gw_in (List.mem_of_getElem? (i := 65) (by decide +kernel)) rfl, by decide +kernel, by decide⟩
theorem b_X10_readInhibition : gLkB kX10_readInhibition 0 := ⟨gw_in (List.mem_of_getElem? (i := 447) (by decide +kernel)) rfl, gw_in (List.mem_of_getElem? (i := 55) (by decide +kernel)) rfl, by decide +kernel, by decide⟩
theorem b_X3_init : gLkB kX3_init 3 := ⟨gw_in (List.mem_of_getElem? (i := 452) (by decide +kernel)) rfl, gw_in (List.mem_of_getElem? (i := 66) (by decide +kernel)) rfl, by decide +kernel, by decide⟩
theorem b_X10_clear : gLkB kX10_clear 0 := ⟨gw_in (List.mem_of_getElem? (i := 470) (by decide +kernel)) rfl, gw_in (List.mem_of_getElem? (i := 55) (by decide +kernel)) rfl, by decide +kernel, by decide⟩
theorem b_X11_remove : gLkB kX11_remove 2 := ⟨gw_in (List.mem_of_getElem? (i := 474) (by decide +kernel)) rfl, gw_in (List.mem_of_getElem? (i := 54) (by decide +kernel)) rfl, by decide +kernel, by decide⟩
theorem b_X11_holdsEntry : gLkB kX11_holdsEntry 2 := ⟨gw_in (List.mem_of_getElem? (i := 477) (by decide +kernel)) rfl, gw_in (List.mem_of_getElem? (i := 54) (by decide +kernel)) rfl, by decide +kernel, by decide⟩
theorem b_X0_forgetRule : gLkB kX0_forgetRule 1 := ⟨gw_in (List.mem_of_getElem? (i := 481) (by decide +kernel)) rfl, gw_in (List.mem_of_getElem? (i := 58) (by decide +kernel)) rfl, by decide +kernel, by decide⟩
theorem b_X11_countEntries : gLkB kX11_countEntries 1 := ⟨gw_in (List.mem_of_getElem? (i := 486) (by decide +kernel)) rfl, gw_in (List.mem_of_getElem? (i := 54) (by decide +kernel)) rfl, by decide +kernel, by decide⟩
theorem b_X11_parameter : gLkB kX11_parameter 2 := ⟨gw_in (List.mem_of_getElem? (i := 490) (by decide +kernel)) rfl, gw_in (List.mem_of_getElem? (i := 54) (by decide +kernel)) rfl, by decide +kernel, by decide⟩
theorem b_X2_forgetAll : gLkB kX2_forgetAll 0 := ⟨gw_in (List.mem_of_getElem? (i := 498) (by decide +kernel)) rfl, gw_in (List.mem_of_getElem? (i := 59) (by decide +kernel)) rfl, by decide +kernel, by decide⟩
theorem b_X11_pass : gLkB kX11_pass 1 := ⟨gw_in (List.mem_of_getElem? (i := 502) (by decide +kernel)) rfl, gw_in (List.mem_of_getElem? (i := 54) (by decide +kernel)) rfl, by decide +kernel, by decide⟩
theorem b_X11_isSpan : gLkB kX11_isSpan 1 := ⟨gw_in (List.mem_of_getElem? (i := 505) (by decide +kernel)) rfl, gw_in (List.mem_of_getElem? (i := 54) (by decide +kernel)) rfl, by decide +kernel, by decide⟩
theorem b_X9_steps : gLkB kX9_steps 1 := ⟨gw_in (List.mem_of_getElem? (i := 510) (by decide +kernel)) rfl, gw_in (List.mem_of_getElem? (i := 56) (by decide +kernel)) rfl, by decide +kernel, by decide⟩
theorem b_X9_step : gLkB kX9_step 0 := ⟨gw_in (List.mem_of_getElem? (i := 514) (by decide +kernel)) rfl, gw_in (List.mem_of_getElem? (i := 56) (by decide +kernel)) rfl, by decide +kernel, by decide⟩
theorem b_X7_holding : gLkB kX7_holding 0 := ⟨gw_in (List.mem_of_getElem? (i := 518) (by decide +kernel)) rfl, gw_in (List.mem_of_getElem? (i := 57) (by decide +kernel)) rfl, by decide +kernel, by decide⟩
theorem b_X7_acceptedSeries : gLkB kX7_acceptedSeries 1 := ⟨gw_in (List.mem_of_getElem? (i := 522) (by decide +kernel)) rfl, gw_in (List.mem_of_getElem? (i := 57) (by decide +kernel)) rfl, by decide +kernel, by decide⟩
theorem b_X6_accepts : gLkB kX6_accepts 1 := ⟨gw_in (List.mem_of_getElem? (i := 526) (by decide +kernel)) rfl, gw_in (List.mem_of_getElem? (i := 64) (by decide +kernel)) rfl, by decide +kernel, by decide⟩
theorem b_X7_matched : gLkB kX7_matched 1 := ⟨gw_in (List.mem_of_getElem? (i := 530) (by decide +kernel)) rfl, gw_in (List.mem_of_getElem? (i := 57) (by decide +kernel)) rfl, by decide +kernel, by decide⟩
theorem b_X0_advance : gLkB kX0_advance 3 := ⟨gw_in (List.mem_of_getElem? (i := 536) (by decide +kernel)) rfl, gw_in (List.mem_of_getElem? (i := 58) (by decide +kernel)) rfl, by decide +kernel, by decide⟩
theorem b_X11_has : gLkB kX11_has 2 := ⟨gw_in (List.mem_of_getElem? (i := 539) (by decide +kernel)) rfl, gw_in (List.mem_of_getElem? (i := 54) (by decide +kernel)) rfl, by decide +kernel, by decide⟩
theorem b_X7_waitOf : gLkB kX7_waitOf 1 := ⟨gw_in (List.mem_of_getElem? (i := 543) (by decide +kernel)) rfl, gw_in (List.mem_of_getElem? (i := 57) (by decide +kernel)) rfl, by decide +kernel, by decide⟩
theorem b_X0_rise : gLkB kX0_rise 3 := ⟨gw_in (List.mem_of_getElem? (i := 547) (by decide +kernel)) rfl, gw_in (List.mem_of_getElem? (i := 58) (by decide +kernel)) rfl, by decide +kernel, by decide⟩
theorem b_X0_stateOf : gLkB kX0_stateOf 1 := ⟨gw_in (List.mem_of_getElem? (i := 551) (by decide +kernel)) rfl, gw_in (List.mem_of_getElem? (i := 58) (by decide +kernel)) rfl, by decide +kernel, by decide⟩
theorem b_X0_remember : gLkB kX0_remember 2 := ⟨gw_in (List.mem_of_getElem? (i := 555) (by decide +kernel)) rfl, gw_in (List.mem_of_getElem? (i := 58) (by decide +kernel)) rfl, by decide +kernel, by decide⟩
theorem b_X0_settle : gLkB kX0_settle 2 := ⟨gw_in (List.mem_of_getElem? (i := 559) (by decide +kernel)) rfl, gw_in (List.mem_of_getElem? (i := 58) (by decide +kernel)) rfl, by decide +kernel, by decide⟩
theorem b_X9_active : gLkB kX9_active 0 := ⟨gw_in (List.mem_of_getElem? (i := 563) (by decide +kernel)) rfl, gw_in (List.mem_of_getElem? (i := 56) (by decide +kernel)) rfl, by decide +kernel, by decide⟩
theorem b_X9_silenced : gLkB kX9_silenced 0 := ⟨gw_in (List.mem_of_getElem? (i := 567) (by decide +kernel)) rfl, gw_in (List.mem_of_getElem? (i := 56) (by decide +kernel)) rfl, by decide +kernel, by decide⟩
theorem b_X9_silencedBy : gLkB kX9_silencedBy 1 := ⟨gw_in (List.mem_of_getElem? (i := 571) (by decide +kernel)) rfl, gw_in (List.mem_of_getElem? (i := 56) (by decide +kernel)) rfl, by decide +kernel, by decide⟩
theorem b_X8_isOn : gLkB kX8_isOn 1 := ⟨gw_in (List.mem_of_getElem? (i := 575) (by decide +kernel)) rfl, gw_in (List.mem_of_getElem? (i := 65) (by decide +kernel)) rfl, by decide +kernel, by decide⟩
theorem b_X9_inhibited : gLkB kX9_inhibited 0 := ⟨gw_in (List.mem_of_getElem? (i := 581) (by decide +kernel)) rfl, gw_in (List.mem_of_getElem? (i := 56) (by decide +kernel)) rfl, by decide +kernel, by decide⟩
theorem b_X9_inhibitedBy : gLkB kX9_inhibitedBy 1 := ⟨gw_in (List.mem_of_getElem? (i := 585) (by decide +kernel)) rfl, gw_in (List.mem_of_getElem? (i := 56) (by decide +kernel)) rfl, by decide +kernel, by decide⟩
theorem b_X7_alike : gLkB kX7_alike 2 := ⟨gw_in (List.mem_of_getElem? (i := 589) (by decide +kernel)) rfl, gw_in (List.mem_of_getElem? (i := 57) (by decide +kernel)) rfl, by decide +kernel, by decide⟩
theorem b_J13_bitCount_95d88 : gLkB kJ13_bitCount_95d88 1 := ⟨gw_in (List.mem_of_getElem? (i := 592) (by decide +kernel)) rfl, gw_in (List.mem_of_getElem? (i := 67) (by decide +kernel)) rfl, by decide +kernel, by decide⟩
theorem b_X9_flapping : gLkB kX9_flapping 1 := ⟨gw_in (List.mem_of_getElem? (i := 601) (by decide +kernel)) rfl, gw_in (List.mem_of_getElem? (i := 56) (by decide +kernel)) rfl, by decide +kernel, by decide⟩
theorem b_X9_windowStart : gLkB kX9_windowStart 0 := ⟨gw_in (List.mem_of_getElem? (i := 605) (by decide +kernel)) rfl, gw_in (List.mem_of_getElem? (i := 56) (by decide +kernel)) rfl, by decide +kernel, by decide⟩
theorem b_X0_flapping : gLkB kX0_flapping 3 := ⟨gw_in (List.mem_of_getElem? (i := 609) (by decide +kernel)) rfl, gw_in (List.mem_of_getElem? (i := 58) (by decide +kernel)) rfl, by decide +kernel, by decide⟩
theorem b_X0_transitionsAfter : gLkB kX0_transitionsAfter 2 := ⟨gw_in (List.mem_of_getElem? (i := 613) (by decide +kernel)) rfl, gw_in (List.mem_of_getElem? (i := 58) (by decide +kernel)) rfl, by decide +kernel, by decide⟩
theorem b_X2_sort : gLkB kX2_sort 2 := ⟨gw_in (List.mem_of_getElem? (i := 617) (by decide +kernel)) rfl, gw_in (List.mem_of_getElem? (i := 59) (by decide +kernel)) rfl, by decide +kernel, by decide⟩
theorem b_X7_keyOf : gLkB kX7_keyOf 1 := ⟨gw_in (List.mem_of_getElem? (i := 621) (by decide +kernel)) rfl, gw_in (List.mem_of_getElem? (i := 57) (by decide +kernel)) rfl, by decide +kernel, by decide⟩
theorem b_X2_dueKind : gLkB kX2_dueKind 3 := ⟨gw_in (List.mem_of_getElem? (i := 626) (by decide +kernel)) rfl, gw_in (List.mem_of_getElem? (i := 59) (by decide +kernel)) rfl, by decide +kernel, by decide⟩
theorem b_X2_newcomers : gLkB kX2_newcomers 1 := ⟨gw_in (List.mem_of_getElem? (i := 630) (by decide +kernel)) rfl, gw_in (List.mem_of_getElem? (i := 59) (by decide +kernel)) rfl, by decide +kernel, by decide⟩
theorem b_X9_sendGroup : gLkB kX9_sendGroup 2 := ⟨gw_in (List.mem_of_getElem? (i := 635) (by decide +kernel)) rfl, gw_in (List.mem_of_getElem? (i := 56) (by decide +kernel)) rfl, by decide +kernel, by decide⟩
theorem b_X2_markSent : gLkB kX2_markSent 3 := ⟨gw_in (List.mem_of_getElem? (i := 639) (by decide +kernel)) rfl, gw_in (List.mem_of_getElem? (i := 59) (by decide +kernel)) rfl, by decide +kernel, by decide⟩
theorem b_X7_greatestSeverity : gLkB kX7_greatestSeverity 1 := ⟨gw_in (List.mem_of_getElem? (i := 643) (by decide +kernel)) rfl, gw_in (List.mem_of_getElem? (i := 57) (by decide +kernel)) rfl, by decide +kernel, by decide⟩
theorem b_X4_write : gLkB kX4_write 5 := ⟨gw_in (List.mem_of_getElem? (i := 648) (by decide +kernel)) rfl, gw_in (List.mem_of_getElem? (i := 60) (by decide +kernel)) rfl, by decide +kernel, by decide⟩
theorem b_X11_alert : gLkB kX11_alert 3 := ⟨gw_in (List.mem_of_getElem? (i := 652) (by decide +kernel)) rfl, gw_in (List.mem_of_getElem? (i := 54) (by decide +kernel)) rfl, by decide +kernel, by decide⟩
theorem b_X0_sinceOf : gLkB kX0_sinceOf 1 := ⟨gw_in (List.mem_of_getElem? (i := 657) (by decide +kernel)) rfl, gw_in (List.mem_of_getElem? (i := 58) (by decide +kernel)) rfl, by decide +kernel, by decide⟩
theorem b_X9_inhibitorsOf : gLkB kX9_inhibitorsOf 1 := ⟨gw_in (List.mem_of_getElem? (i := 663) (by decide +kernel)) rfl, gw_in (List.mem_of_getElem? (i := 56) (by decide +kernel)) rfl, by decide +kernel, by decide⟩
theorem b_X9_lowestSilenceOf : gLkB kX9_lowestSilenceOf 1 := ⟨gw_in (List.mem_of_getElem? (i := 674) (by decide +kernel)) rfl, gw_in (List.mem_of_getElem? (i := 56) (by decide +kernel)) rfl, by decide +kernel, by decide⟩
theorem b_X11_lowest : gLkB kX11_lowest 1 := ⟨gw_in (List.mem_of_getElem? (i := 677) (by decide +kernel)) rfl, gw_in (List.mem_of_getElem? (i := 54) (by decide +kernel)) rfl, by decide +kernel, by decide⟩
theorem b_J13_numberOfTrailingZeros_95d88 : gLkB kJ13_numberOfTrailingZeros_95d88 1 := ⟨gw_in (List.mem_of_getElem? (i := 680) (by decide +kernel)) rfl, gw_in (List.mem_of_getElem? (i := 67) (by decide +kernel)) rfl, by decide +kernel, by decide⟩
theorem b_J6_numberOfTrailingZeros_0f7a4 : gLkB kJ6_numberOfTrailingZeros_0f7a4 1 := ⟨gw_in (List.mem_of_getElem? (i := 683) (by decide +kernel)) rfl, gw_in (List.mem_of_getElem? (i := 68) (by decide +kernel)) rfl, by decide +kernel, by decide⟩
theorem b_X11_alerts : gLkB kX11_alerts 1 := ⟨gw_in (List.mem_of_getElem? (i := 689) (by decide +kernel)) rfl, gw_in (List.mem_of_getElem? (i := 54) (by decide +kernel)) rfl, by decide +kernel, by decide⟩
theorem b_X11_group : gLkB kX11_group 2 := ⟨gw_in (List.mem_of_getElem? (i := 695) (by decide +kernel)) rfl, gw_in (List.mem_of_getElem? (i := 54) (by decide +kernel)) rfl, by decide +kernel, by decide⟩
theorem b_X2_nextMinute : gLkB kX2_nextMinute 3 := ⟨gw_in (List.mem_of_getElem? (i := 702) (by decide +kernel)) rfl, gw_in (List.mem_of_getElem? (i := 59) (by decide +kernel)) rfl, by decide +kernel, by decide⟩
theorem b_J9_min_7cf53 : gLkB kJ9_min_7cf53 2 := ⟨gw_in (List.mem_of_getElem? (i := 705) (by decide +kernel)) rfl, gw_in (List.mem_of_getElem? (i := 69) (by decide +kernel)) rfl, by decide +kernel, by decide⟩
theorem b_J9_max_7cf53 : gLkB kJ9_max_7cf53 2 := ⟨gw_in (List.mem_of_getElem? (i := 708) (by decide +kernel)) rfl, gw_in (List.mem_of_getElem? (i := 69) (by decide +kernel)) rfl, by decide +kernel, by decide⟩
theorem b_X11_key : gLkB kX11_key 1 := ⟨gw_in (List.mem_of_getElem? (i := 712) (by decide +kernel)) rfl, gw_in (List.mem_of_getElem? (i := 54) (by decide +kernel)) rfl, by decide +kernel, by decide⟩
theorem b_X2_countNonEmpty : gLkB kX2_countNonEmpty 0 := ⟨gw_in (List.mem_of_getElem? (i := 716) (by decide +kernel)) rfl, gw_in (List.mem_of_getElem? (i := 59) (by decide +kernel)) rfl, by decide +kernel, by decide⟩
theorem b_X2_keyAt : gLkB kX2_keyAt 1 := ⟨gw_in (List.mem_of_getElem? (i := 720) (by decide +kernel)) rfl, gw_in (List.mem_of_getElem? (i := 59) (by decide +kernel)) rfl, by decide +kernel, by decide⟩
theorem b_X11_sent : gLkB kX11_sent 2 := ⟨gw_in (List.mem_of_getElem? (i := 724) (by decide +kernel)) rfl, gw_in (List.mem_of_getElem? (i := 54) (by decide +kernel)) rfl, by decide +kernel, by decide⟩
theorem b_X4_keeps : gLkB kX4_keeps 1 := ⟨gw_in (List.mem_of_getElem? (i := 728) (by decide +kernel)) rfl, gw_in (List.mem_of_getElem? (i := 60) (by decide +kernel)) rfl, by decide +kernel, by decide⟩
theorem b_X4_read : gLkB kX4_read 2 := ⟨gw_in (List.mem_of_getElem? (i := 732) (by decide +kernel)) rfl, gw_in (List.mem_of_getElem? (i := 60) (by decide +kernel)) rfl, by decide +kernel, by decide⟩
theorem b_X11_ahead : gLkB kX11_ahead 1 := ⟨gw_in (List.mem_of_getElem? (i := 736) (by decide +kernel)) rfl, gw_in (List.mem_of_getElem? (i := 54) (by decide +kernel)) rfl, by decide +kernel, by decide⟩
theorem b_X9_copyFrom : gLkB kX9_copyFrom 1 := ⟨gw_in (List.mem_of_getElem? (i := 740) (by decide +kernel)) rfl, gw_in (List.mem_of_getElem? (i := 56) (by decide +kernel)) rfl, by decide +kernel, by decide⟩
theorem b_X7_copyFrom : gLkB kX7_copyFrom 1 := ⟨gw_in (List.mem_of_getElem? (i := 744) (by decide +kernel)) rfl, gw_in (List.mem_of_getElem? (i := 57) (by decide +kernel)) rfl, by decide +kernel, by decide⟩
theorem b_X0_copyFrom : gLkB kX0_copyFrom 1 := ⟨gw_in (List.mem_of_getElem? (i := 751) (by decide +kernel)) rfl, gw_in (List.mem_of_getElem? (i := 58) (by decide +kernel)) rfl, by decide +kernel, by decide⟩
theorem b_X2_copyFrom : gLkB kX2_copyFrom 1 := ⟨gw_in (List.mem_of_getElem? (i := 756) (by decide +kernel)) rfl, gw_in (List.mem_of_getElem? (i := 59) (by decide +kernel)) rfl, by decide +kernel, by decide⟩
theorem b_X4_copyFrom : gLkB kX4_copyFrom 1 := ⟨gw_in (List.mem_of_getElem? (i := 761) (by decide +kernel)) rfl, gw_in (List.mem_of_getElem? (i := 60) (by decide +kernel)) rfl, by decide +kernel, by decide⟩
theorem b_X11_next : gLkB kX11_next 1 := ⟨gw_in (List.mem_of_getElem? (i := 766) (by decide +kernel)) rfl, gw_in (List.mem_of_getElem? (i := 54) (by decide +kernel)) rfl, by decide +kernel, by decide⟩
theorem b_X11_saved : gLkB kX11_saved 2 := ⟨gw_in (List.mem_of_getElem? (i := 771) (by decide +kernel)) rfl, gw_in (List.mem_of_getElem? (i := 54) (by decide +kernel)) rfl, by decide +kernel, by decide⟩
theorem b_X11_image : gLkB kX11_image 0 := ⟨gw_in (List.mem_of_getElem? (i := 775) (by decide +kernel)) rfl, gw_in (List.mem_of_getElem? (i := 54) (by decide +kernel)) rfl, by decide +kernel, by decide⟩
theorem b_X11_undo : gLkB kX11_undo 0 := ⟨gw_in (List.mem_of_getElem? (i := 779) (by decide +kernel)) rfl, gw_in (List.mem_of_getElem? (i := 54) (by decide +kernel)) rfl, by decide +kernel, by decide⟩
theorem b_X11_count : gLkB kX11_count 1 := ⟨gw_in (List.mem_of_getElem? (i := 783) (by decide +kernel)) rfl, gw_in (List.mem_of_getElem? (i := 54) (by decide +kernel)) rfl, by decide +kernel, by decide⟩
theorem b_X7_countValues : gLkB kX7_countValues 0 := ⟨gw_in (List.mem_of_getElem? (i := 787) (by decide +kernel)) rfl, gw_in (List.mem_of_getElem? (i := 57) (by decide +kernel)) rfl, by decide +kernel, by decide⟩
theorem b_X2_countOpen : gLkB kX2_countOpen 0 := ⟨gw_in (List.mem_of_getElem? (i := 791) (by decide +kernel)) rfl, gw_in (List.mem_of_getElem? (i := 59) (by decide +kernel)) rfl, by decide +kernel, by decide⟩
theorem b_X9_countSilencesInUse : gLkB kX9_countSilencesInUse 0 := ⟨gw_in (List.mem_of_getElem? (i := 796) (by decide +kernel)) rfl, gw_in (List.mem_of_getElem? (i := 56) (by decide +kernel)) rfl, by decide +kernel, by decide⟩
theorem b_X11_parameterOrNone : gLkB kX11_parameterOrNone 1 := ⟨gw_in (List.mem_of_getElem? (i := 800) (by decide +kernel)) rfl, gw_in (List.mem_of_getElem? (i := 54) (by decide +kernel)) rfl, by decide +kernel, by decide⟩
theorem b_X12_init : gLkB kX12_init 0 := ⟨gw_in (List.mem_of_getElem? (i := 805) (by decide +kernel)) rfl, gw_in (List.mem_of_getElem? (i := 61) (by decide +kernel)) rfl, by decide +kernel, by decide⟩
theorem b_X12_label : gLkB kX12_label 3 := ⟨gw_in (List.mem_of_getElem? (i := 847) (by decide +kernel)) rfl, gw_in (List.mem_of_getElem? (i := 61) (by decide +kernel)) rfl, by decide +kernel, by decide⟩
theorem b_X12_isIn : gLkB kX12_isIn 3 := ⟨gw_in (List.mem_of_getElem? (i := 850) (by decide +kernel)) rfl, gw_in (List.mem_of_getElem? (i := 61) (by decide +kernel)) rfl, by decide +kernel, by decide⟩
theorem b_X12_sample : gLkB kX12_sample 2 := ⟨gw_in (List.mem_of_getElem? (i := 854) (by decide +kernel)) rfl, gw_in (List.mem_of_getElem? (i := 61) (by decide +kernel)) rfl, by decide +kernel, by decide⟩
theorem b_X12_drop : gLkB kX12_drop 1 := ⟨gw_in (List.mem_of_getElem? (i := 858) (by decide +kernel)) rfl, gw_in (List.mem_of_getElem? (i := 61) (by decide +kernel)) rfl, by decide +kernel, by decide⟩
theorem b_X12_feed : gLkB kX12_feed 6 := ⟨gw_in (List.mem_of_getElem? (i := 862) (by decide +kernel)) rfl, gw_in (List.mem_of_getElem? (i := 61) (by decide +kernel)) rfl, by decide +kernel, by decide⟩
theorem b_X12_add : gLkB kX12_add 1 := ⟨gw_in (List.mem_of_getElem? (i := 866) (by decide +kernel)) rfl, gw_in (List.mem_of_getElem? (i := 61) (by decide +kernel)) rfl, by decide +kernel, by decide⟩
theorem b_X12_many : gLkB kX12_many 1 := ⟨gw_in (List.mem_of_getElem? (i := 870) (by decide +kernel)) rfl, gw_in (List.mem_of_getElem? (i := 61) (by decide +kernel)) rfl, by decide +kernel, by decide⟩
theorem b_X12_most : gLkB kX12_most 1 := ⟨gw_in (List.mem_of_getElem? (i := 873) (by decide +kernel)) rfl, gw_in (List.mem_of_getElem? (i := 61) (by decide +kernel)) rfl, by decide +kernel, by decide⟩
theorem b_X12_isOne : gLkB kX12_isOne 2 := ⟨gw_in (List.mem_of_getElem? (i := 877) (by decide +kernel)) rfl, gw_in (List.mem_of_getElem? (i := 61) (by decide +kernel)) rfl, by decide +kernel, by decide⟩
theorem b_X12_first : gLkB kX12_first 1 := ⟨gw_in (List.mem_of_getElem? (i := 880) (by decide +kernel)) rfl, gw_in (List.mem_of_getElem? (i := 61) (by decide +kernel)) rfl, by decide +kernel, by decide⟩
theorem b_X12_wide : gLkB kX12_wide 1 := ⟨gw_in (List.mem_of_getElem? (i := 883) (by decide +kernel)) rfl, gw_in (List.mem_of_getElem? (i := 61) (by decide +kernel)) rfl, by decide +kernel, by decide⟩
theorem b_X12_rule : gLkB kX12_rule 0 := ⟨gw_in (List.mem_of_getElem? (i := 887) (by decide +kernel)) rfl, gw_in (List.mem_of_getElem? (i := 61) (by decide +kernel)) rfl, by decide +kernel, by decide⟩
theorem b_X12_here : gLkB kX12_here 0 := ⟨gw_in (List.mem_of_getElem? (i := 891) (by decide +kernel)) rfl, gw_in (List.mem_of_getElem? (i := 61) (by decide +kernel)) rfl, by decide +kernel, by decide⟩
theorem b_X12_matchers : gLkB kX12_matchers 2 := ⟨gw_in (List.mem_of_getElem? (i := 895) (by decide +kernel)) rfl, gw_in (List.mem_of_getElem? (i := 61) (by decide +kernel)) rfl, by decide +kernel, by decide⟩
theorem b_X12_matcher : gLkB kX12_matcher 1 := ⟨gw_in (List.mem_of_getElem? (i := 899) (by decide +kernel)) rfl, gw_in (List.mem_of_getElem? (i := 61) (by decide +kernel)) rfl, by decide +kernel, by decide⟩
theorem b_X12_digit : gLkB kX12_digit 1 := ⟨gw_in (List.mem_of_getElem? (i := 903) (by decide +kernel)) rfl, gw_in (List.mem_of_getElem? (i := 61) (by decide +kernel)) rfl, by decide +kernel, by decide⟩
theorem b_X12_sign : gLkB kX12_sign 1 := ⟨gw_in (List.mem_of_getElem? (i := 907) (by decide +kernel)) rfl, gw_in (List.mem_of_getElem? (i := 61) (by decide +kernel)) rfl, by decide +kernel, by decide⟩
theorem b_X12_number : gLkB kX12_number 0 := ⟨gw_in (List.mem_of_getElem? (i := 911) (by decide +kernel)) rfl, gw_in (List.mem_of_getElem? (i := 61) (by decide +kernel)) rfl, by decide +kernel, by decide⟩
theorem b_X12_silence : gLkB kX12_silence 0 := ⟨gw_in (List.mem_of_getElem? (i := 915) (by decide +kernel)) rfl, gw_in (List.mem_of_getElem? (i := 61) (by decide +kernel)) rfl, by decide +kernel, by decide⟩
theorem b_X12_inhibition : gLkB kX12_inhibition 0 := ⟨gw_in (List.mem_of_getElem? (i := 919) (by decide +kernel)) rfl, gw_in (List.mem_of_getElem? (i := 61) (by decide +kernel)) rfl, by decide +kernel, by decide⟩
theorem b_X12_remove : gLkB kX12_remove 2 := ⟨gw_in (List.mem_of_getElem? (i := 923) (by decide +kernel)) rfl, gw_in (List.mem_of_getElem? (i := 61) (by decide +kernel)) rfl, by decide +kernel, by decide⟩
theorem b_X12_parameter : gLkB kX12_parameter 2 := ⟨gw_in (List.mem_of_getElem? (i := 927) (by decide +kernel)) rfl, gw_in (List.mem_of_getElem? (i := 61) (by decide +kernel)) rfl, by decide +kernel, by decide⟩
theorem b_X12_pass : gLkB kX12_pass 1 := ⟨gw_in (List.mem_of_getElem? (i := 931) (by decide +kernel)) rfl, gw_in (List.mem_of_getElem? (i := 61) (by decide +kernel)) rfl, by decide +kernel, by decide⟩
theorem b_X12_step : gLkB kX12_step 0 := ⟨gw_in (List.mem_of_getElem? (i := 936) (by decide +kernel)) rfl, gw_in (List.mem_of_getElem? (i := 61) (by decide +kernel)) rfl, by decide +kernel, by decide⟩
theorem b_X12_goesOn : gLkB kX12_goesOn 1 := ⟨gw_in (List.mem_of_getElem? (i := 940) (by decide +kernel)) rfl, gw_in (List.mem_of_getElem? (i := 61) (by decide +kernel)) rfl, by decide +kernel, by decide⟩
theorem b_X12_holds : gLkB kX12_holds 1 := ⟨gw_in (List.mem_of_getElem? (i := 944) (by decide +kernel)) rfl, gw_in (List.mem_of_getElem? (i := 61) (by decide +kernel)) rfl, by decide +kernel, by decide⟩
theorem b_X12_matches : gLkB kX12_matches 2 := ⟨gw_in (List.mem_of_getElem? (i := 948) (by decide +kernel)) rfl, gw_in (List.mem_of_getElem? (i := 61) (by decide +kernel)) rfl, by decide +kernel, by decide⟩
theorem b_X12_turns : gLkB kX12_turns 1 := ⟨gw_in (List.mem_of_getElem? (i := 952) (by decide +kernel)) rfl, gw_in (List.mem_of_getElem? (i := 61) (by decide +kernel)) rfl, by decide +kernel, by decide⟩
theorem b_X12_actives : gLkB kX12_actives 0 := ⟨gw_in (List.mem_of_getElem? (i := 956) (by decide +kernel)) rfl, gw_in (List.mem_of_getElem? (i := 61) (by decide +kernel)) rfl, by decide +kernel, by decide⟩
theorem b_X12_isActive : gLkB kX12_isActive 1 := ⟨gw_in (List.mem_of_getElem? (i := 960) (by decide +kernel)) rfl, gw_in (List.mem_of_getElem? (i := 61) (by decide +kernel)) rfl, by decide +kernel, by decide⟩
theorem b_X12_state : gLkB kX12_state 1 := ⟨gw_in (List.mem_of_getElem? (i := 964) (by decide +kernel)) rfl, gw_in (List.mem_of_getElem? (i := 61) (by decide +kernel)) rfl, by decide +kernel, by decide⟩
theorem b_X12_silenceOf : gLkB kX12_silenceOf 1 := ⟨gw_in (List.mem_of_getElem? (i := 968) (by decide +kernel)) rfl, gw_in (List.mem_of_getElem? (i := 61) (by decide +kernel)) rfl, by decide +kernel, by decide⟩
theorem b_X12_isSilencedBy : gLkB kX12_isSilencedBy 2 := ⟨gw_in (List.mem_of_getElem? (i := 972) (by decide +kernel)) rfl, gw_in (List.mem_of_getElem? (i := 61) (by decide +kernel)) rfl, by decide +kernel, by decide⟩
theorem b_X12_isFlapping : gLkB kX12_isFlapping 1 := ⟨gw_in (List.mem_of_getElem? (i := 976) (by decide +kernel)) rfl, gw_in (List.mem_of_getElem? (i := 61) (by decide +kernel)) rfl, by decide +kernel, by decide⟩
theorem b_X12_flaps : gLkB kX12_flaps 1 := ⟨gw_in (List.mem_of_getElem? (i := 980) (by decide +kernel)) rfl, gw_in (List.mem_of_getElem? (i := 61) (by decide +kernel)) rfl, by decide +kernel, by decide⟩
theorem b_X12_inhibitorOf : gLkB kX12_inhibitorOf 1 := ⟨gw_in (List.mem_of_getElem? (i := 984) (by decide +kernel)) rfl, gw_in (List.mem_of_getElem? (i := 61) (by decide +kernel)) rfl, by decide +kernel, by decide⟩
theorem b_X12_isInhibitedBy : gLkB kX12_isInhibitedBy 2 := ⟨gw_in (List.mem_of_getElem? (i := 988) (by decide +kernel)) rfl, gw_in (List.mem_of_getElem? (i := 61) (by decide +kernel)) rfl, by decide +kernel, by decide⟩
theorem b_X12_withKey : gLkB kX12_withKey 2 := ⟨gw_in (List.mem_of_getElem? (i := 992) (by decide +kernel)) rfl, gw_in (List.mem_of_getElem? (i := 61) (by decide +kernel)) rfl, by decide +kernel, by decide⟩
theorem b_X12_keyOf : gLkB kX12_keyOf 1 := ⟨gw_in (List.mem_of_getElem? (i := 996) (by decide +kernel)) rfl, gw_in (List.mem_of_getElem? (i := 61) (by decide +kernel)) rfl, by decide +kernel, by decide⟩
theorem b_X12_sends : gLkB kX12_sends 3 := ⟨gw_in (List.mem_of_getElem? (i := 1000) (by decide +kernel)) rfl, gw_in (List.mem_of_getElem? (i := 61) (by decide +kernel)) rfl, by decide +kernel, by decide⟩
theorem b_X12_size : gLkB kX12_size 1 := ⟨gw_in (List.mem_of_getElem? (i := 1003) (by decide +kernel)) rfl, gw_in (List.mem_of_getElem? (i := 61) (by decide +kernel)) rfl, by decide +kernel, by decide⟩
theorem b_X12_greatest : gLkB kX12_greatest 1 := ⟨gw_in (List.mem_of_getElem? (i := 1007) (by decide +kernel)) rfl, gw_in (List.mem_of_getElem? (i := 61) (by decide +kernel)) rfl, by decide +kernel, by decide⟩
theorem b_X12_severity : gLkB kX12_severity 1 := ⟨gw_in (List.mem_of_getElem? (i := 1011) (by decide +kernel)) rfl, gw_in (List.mem_of_getElem? (i := 61) (by decide +kernel)) rfl, by decide +kernel, by decide⟩
theorem b_X12_alert : gLkB kX12_alert 3 := ⟨gw_in (List.mem_of_getElem? (i := 1016) (by decide +kernel)) rfl, gw_in (List.mem_of_getElem? (i := 61) (by decide +kernel)) rfl, by decide +kernel, by decide⟩
theorem b_X12_alerts : gLkB kX12_alerts 1 := ⟨gw_in (List.mem_of_getElem? (i := 1020) (by decide +kernel)) rfl, gw_in (List.mem_of_getElem? (i := 61) (by decide +kernel)) rfl, by decide +kernel, by decide⟩
theorem b_X12_isOf : gLkB kX12_isOf 2 := ⟨gw_in (List.mem_of_getElem? (i := 1024) (by decide +kernel)) rfl, gw_in (List.mem_of_getElem? (i := 61) (by decide +kernel)) rfl, by decide +kernel, by decide⟩
theorem b_X12_group : gLkB kX12_group 2 := ⟨gw_in (List.mem_of_getElem? (i := 1028) (by decide +kernel)) rfl, gw_in (List.mem_of_getElem? (i := 61) (by decide +kernel)) rfl, by decide +kernel, by decide⟩
theorem b_X12_later : gLkB kX12_later 1 := ⟨gw_in (List.mem_of_getElem? (i := 1032) (by decide +kernel)) rfl, gw_in (List.mem_of_getElem? (i := 61) (by decide +kernel)) rfl, by decide +kernel, by decide⟩
theorem b_X12_key : gLkB kX12_key 1 := ⟨gw_in (List.mem_of_getElem? (i := 1036) (by decide +kernel)) rfl, gw_in (List.mem_of_getElem? (i := 61) (by decide +kernel)) rfl, by decide +kernel, by decide⟩
theorem b_X12_sent : gLkB kX12_sent 2 := ⟨gw_in (List.mem_of_getElem? (i := 1040) (by decide +kernel)) rfl, gw_in (List.mem_of_getElem? (i := 61) (by decide +kernel)) rfl, by decide +kernel, by decide⟩
theorem b_X12_ahead : gLkB kX12_ahead 1 := ⟨gw_in (List.mem_of_getElem? (i := 1044) (by decide +kernel)) rfl, gw_in (List.mem_of_getElem? (i := 61) (by decide +kernel)) rfl, by decide +kernel, by decide⟩
theorem b_X12_looks : gLkB kX12_looks 2 := ⟨gw_in (List.mem_of_getElem? (i := 1048) (by decide +kernel)) rfl, gw_in (List.mem_of_getElem? (i := 61) (by decide +kernel)) rfl, by decide +kernel, by decide⟩
theorem b_X12_copies : gLkB kX12_copies 4 := ⟨gw_in (List.mem_of_getElem? (i := 1051) (by decide +kernel)) rfl, gw_in (List.mem_of_getElem? (i := 61) (by decide +kernel)) rfl, by decide +kernel, by decide⟩
theorem b_X12_next : gLkB kX12_next 1 := ⟨gw_in (List.mem_of_getElem? (i := 1055) (by decide +kernel)) rfl, gw_in (List.mem_of_getElem? (i := 61) (by decide +kernel)) rfl, by decide +kernel, by decide⟩
theorem b_X12_saved : gLkB kX12_saved 2 := ⟨gw_in (List.mem_of_getElem? (i := 1059) (by decide +kernel)) rfl, gw_in (List.mem_of_getElem? (i := 61) (by decide +kernel)) rfl, by decide +kernel, by decide⟩
theorem b_X12_image : gLkB kX12_image 0 := ⟨gw_in (List.mem_of_getElem? (i := 1063) (by decide +kernel)) rfl, gw_in (List.mem_of_getElem? (i := 61) (by decide +kernel)) rfl, by decide +kernel, by decide⟩
theorem b_X12_undo : gLkB kX12_undo 0 := ⟨gw_in (List.mem_of_getElem? (i := 1067) (by decide +kernel)) rfl, gw_in (List.mem_of_getElem? (i := 61) (by decide +kernel)) rfl, by decide +kernel, by decide⟩
theorem b_X12_count : gLkB kX12_count 1 := ⟨gw_in (List.mem_of_getElem? (i := 1071) (by decide +kernel)) rfl, gw_in (List.mem_of_getElem? (i := 61) (by decide +kernel)) rfl, by decide +kernel, by decide⟩
theorem b_X12_silencing : gLkB kX12_silencing 0 := ⟨gw_in (List.mem_of_getElem? (i := 1075) (by decide +kernel)) rfl, gw_in (List.mem_of_getElem? (i := 61) (by decide +kernel)) rfl, by decide +kernel, by decide⟩
