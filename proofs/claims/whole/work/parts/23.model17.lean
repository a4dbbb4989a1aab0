def mAlertN (V : Nat → Int32) (a w : Nat) : Int32 := match w with
  | 0 => V (206 + 23 * a)
  | 1 => if V (206 + 23 * a) = 0 then -5 else V (206 + 23 * a + 1)
  | 2 => if mSilOf V a < 0 then 0 else 1
  | 3 => if mInhOf V a < 0 then 0 else 1
  | 4 => gb (mFlapping V a)
  | 5 => gb (mAct V a)
  | 6 => nI (mFlaps V a)
  | 7 => mKey V a
  | 8 => mSilOf V a
  | 9 => mInhOf V a
  | _ => gb (mHolds V a)
def aAlert (V : Nat → Int32) (r s w : Int32) : Int32 := if (mOne V 0 r && (mIn s 0 11 && mIn w 0 10)) = true then mAlertN V (12 * r.toNatClampNeg + s.toNatClampNeg) w.toNatClampNeg else -1
section MODEL
variable {G : gG} {M : gM} {m : Nat} {hi tn at_ fa : Int32} {V K IV : Nat → Int32} {S KS IS : Nat → Int64}
set_option maxRecDepth 20000 in
theorem c12_alert (hm : M.1 m = some (mO m hi tn at_ fa)) (hV : M.1 (m + 1) = some (gI 1999 V)) (hI : mI V) (r s w : Int32) : gCon G kX12_alert 5 0 0 M [.ref m, .int r, .int s, .int w] (fun M2 v => M2 = M ∧ v = some (.int (aAlert V r s w))) := by
  refine gCon_of (by decide) (Nat.le_of_ble_eq_true rfl) ?_
  have sw : ∀ (r' s' z a : Nat), z ≤ 10 → a < 60 → gJ G kX12_alert 5 0 0 M 40 [(4, .int (nI a)), (0, .ref m), (1, .int (nI r')), (2, .int (nI s')), (3, .int (nI z))] [.int (nI z)] (gQ kX12_alert (fun M2 v => M2 = M ∧ v = some (.int (mAlertN V a z)))) := by
    intro r' s' z a hz ha
    rcases (show z = 0 ∨ z = 1 ∨ z = 2 ∨ z = 3 ∨ z = 4 ∨ z = 5 ∨ z = 6 ∨ z = 7 ∨ z = 8 ∨ z = 9 ∨ z = 10 by omega) with rfl | rfl | rfl | rfl | rfl | rfl | rfl | rfl | rfl | rfl | rfl
    · refine gJ_tableIn (off := 56) (tgt := 96) dX12_alert_40 (by decide) (by decide) (by decide) (by decide) ?_
      refine gJ_aload_n dX12_alert_96 rfl rfl ?_
      refine gJ_iload dX12_alert_97 rfl ?_
      refine gJ_callV (As := [_]) b_X12_state lX12_104 i_X12_state s_X12_state dX12_alert_99 (c12_state hm hV a ha) (by first | with_reducible assumption | with_reducible exact gUp_s | with_reducible exact gUp_n (by with_reducible assumption) (by omega) | exact gUp_n (by assumption) (by omega) | assumption) rfl rfl (Nat.le_of_ble_eq_true rfl) rfl (by decide) (fun M99 v_ h99 => ?_)
      obtain ⟨e_, rfl⟩ := h99
      replace e_ := e_.symm
      subst e_
      refine gJ_iret dX12_alert_102 rfl ?_
      exact ⟨rfl, rfl⟩
    · refine gJ_tableIn (off := 63) (tgt := 103) dX12_alert_40 (by decide) (by decide) (by decide) (by decide) ?_
      refine gJ_aload_n dX12_alert_103 rfl rfl ?_
      refine gJ_iload dX12_alert_104 rfl ?_
      refine gJ_callV (As := [_]) b_X12_state lX12_104 i_X12_state s_X12_state dX12_alert_106 (c12_state hm hV a ha) (by first | with_reducible assumption | with_reducible exact gUp_s | with_reducible exact gUp_n (by with_reducible assumption) (by omega) | exact gUp_n (by assumption) (by omega) | assumption) rfl rfl (Nat.le_of_ble_eq_true rfl) rfl (by decide) (fun M106 v_ h106 => ?_)
      obtain ⟨e_, rfl⟩ := h106
      replace e_ := e_.symm
      subst e_
      refine gJ_if_ne (tgt := 117) dX12_alert_109 (by decide) (fun c109 => ?_) (fun c109 => ?_)
      · refine gJ_aload_n dX12_alert_117 rfl rfl ?_
        refine gJ_get fX12_9 dX12_alert_118 (by first | with_reducible assumption | with_reducible exact gUp_s | with_reducible exact gUp_n (by with_reducible assumption) (by omega) | exact gUp_n (by assumption) (by omega) | assumption) rfl ?_
        refine gJ_sipush (v := 206) dX12_alert_121 (by decide) ?_
        refine gJ_bipush (v := 23) dX12_alert_124 (by decide) ?_
        refine gJ_iload dX12_alert_126 rfl ?_
        refine gJ_imulN (a := 23) (b := a) dX12_alert_128 (by first | with_reducible rfl | rfl) (by first | with_reducible rfl | rfl) ?_
        refine gJ_iaddN (a := 206) (b := (23 * a)) dX12_alert_129 (by first | with_reducible rfl | rfl) (by first | with_reducible rfl | rfl) ?_
        refine gJ_iconst (v := 1) dX12_alert_130 (by decide) ?_
        refine gJ_iaddN (a := (206 + (23 * a))) (b := 1) dX12_alert_131 (by first | with_reducible rfl | rfl) (by first | with_reducible rfl | rfl) ?_
        refine gJ_ialdN (j := ((206 + (23 * a)) + 1)) dX12_alert_132 (by first | with_reducible assumption | with_reducible exact gUp_s | with_reducible exact gUp_n (by with_reducible assumption) (by omega) | exact gUp_n (by assumption) (by omega) | assumption) (by first | with_reducible rfl | rfl) (by omega) (by decide) ?_
        refine gJ_iret dX12_alert_133 rfl ?_
        refine ⟨rfl, ?_⟩
        rw [mAlertN, if_neg c109]
      · refine gJ_bipush (v := -5) dX12_alert_112 (by decide) ?_
        refine gJ_goto (tgt := 133) dX12_alert_114 (by decide) ?_
        refine gJ_iret dX12_alert_133 rfl ?_
        refine ⟨rfl, ?_⟩
        rw [mAlertN, if_pos c109]
    · refine gJ_tableIn (off := 94) (tgt := 134) dX12_alert_40 (by decide) (by decide) (by decide) (by decide) ?_
      refine gJ_aload_n dX12_alert_134 rfl rfl ?_
      refine gJ_iload dX12_alert_135 rfl ?_
      refine gJ_callV (As := [_]) b_X12_silenceOf lX12_113 i_X12_silenceOf s_X12_silenceOf dX12_alert_137 (c12_silenceOf hm hV hI a ha) (by first | with_reducible assumption | with_reducible exact gUp_s | with_reducible exact gUp_n (by with_reducible assumption) (by omega) | exact gUp_n (by assumption) (by omega) | assumption) rfl rfl (Nat.le_of_ble_eq_true rfl) rfl (by decide) (fun M137 v_ h137 => ?_)
      obtain ⟨e_, rfl⟩ := h137
      replace e_ := e_.symm
      subst e_
      refine gJ_if_lt (tgt := 147) dX12_alert_140 (by decide) (fun c140 => ?_) (fun c140 => ?_)
      · refine gJ_iconst (v := 0) dX12_alert_147 (by decide) ?_
        refine gJ_iret dX12_alert_148 rfl ?_
        refine ⟨rfl, ?_⟩
        rw [mAlertN, if_pos c140]
      · refine gJ_iconst (v := 1) dX12_alert_143 (by decide) ?_
        refine gJ_goto (tgt := 148) dX12_alert_144 (by decide) ?_
        refine gJ_iret dX12_alert_148 rfl ?_
        refine ⟨rfl, ?_⟩
        rw [mAlertN, if_neg c140]
    · refine gJ_tableIn (off := 109) (tgt := 149) dX12_alert_40 (by decide) (by decide) (by decide) (by decide) ?_
      refine gJ_aload_n dX12_alert_149 rfl rfl ?_
      refine gJ_iload dX12_alert_150 rfl ?_
      refine gJ_callV (As := [_]) b_X12_inhibitorOf lX12_120 i_X12_inhibitorOf s_X12_inhibitorOf dX12_alert_152 (c12_inhibitorOf hm hV hI a ha) (by first | with_reducible assumption | with_reducible exact gUp_s | with_reducible exact gUp_n (by with_reducible assumption) (by omega) | exact gUp_n (by assumption) (by omega) | assumption) rfl rfl (Nat.le_of_ble_eq_true rfl) rfl (by decide) (fun M152 v_ h152 => ?_)
      obtain ⟨e_, rfl⟩ := h152
      replace e_ := e_.symm
      subst e_
      refine gJ_if_lt (tgt := 162) dX12_alert_155 (by decide) (fun c155 => ?_) (fun c155 => ?_)
      · refine gJ_iconst (v := 0) dX12_alert_162 (by decide) ?_
        refine gJ_iret dX12_alert_163 rfl ?_
        refine ⟨rfl, ?_⟩
        rw [mAlertN, if_pos c155]
      · refine gJ_iconst (v := 1) dX12_alert_158 (by decide) ?_
        refine gJ_goto (tgt := 163) dX12_alert_159 (by decide) ?_
        refine gJ_iret dX12_alert_163 rfl ?_
        refine ⟨rfl, ?_⟩
        rw [mAlertN, if_neg c155]
    · refine gJ_tableIn (off := 124) (tgt := 164) dX12_alert_40 (by decide) (by decide) (by decide) (by decide) ?_
      refine gJ_aload_n dX12_alert_164 rfl rfl ?_
      refine gJ_iload dX12_alert_165 rfl ?_
      refine gJ_callV (As := [_]) b_X12_isFlapping lX12_116 i_X12_isFlapping s_X12_isFlapping dX12_alert_167 (c12_isFlapping hm hV hI a ha) (by first | with_reducible assumption | with_reducible exact gUp_s | with_reducible exact gUp_n (by with_reducible assumption) (by omega) | exact gUp_n (by assumption) (by omega) | assumption) rfl rfl (Nat.le_of_ble_eq_true rfl) rfl (by decide) (fun M167 v_ h167 => ?_)
      obtain ⟨e_, rfl⟩ := h167
      replace e_ := e_.symm
      subst e_
      refine gJ_if_eqB (tgt := 177) dX12_alert_170 (by decide) (fun c170 => ?_) (fun c170 => ?_)
      · refine gJ_iconst (v := 0) dX12_alert_177 (by decide) ?_
        refine gJ_iret dX12_alert_178 rfl ?_
        refine ⟨rfl, ?_⟩
        rw [mAlertN, c170]
        rfl
      · refine gJ_iconst (v := 1) dX12_alert_173 (by decide) ?_
        refine gJ_goto (tgt := 178) dX12_alert_174 (by decide) ?_
        refine gJ_iret dX12_alert_178 rfl ?_
        refine ⟨rfl, ?_⟩
        rw [mAlertN, c170]
        rfl
    · refine gJ_tableIn (off := 139) (tgt := 179) dX12_alert_40 (by decide) (by decide) (by decide) (by decide) ?_
      refine gJ_aload_n dX12_alert_179 rfl rfl ?_
      refine gJ_iload dX12_alert_180 rfl ?_
      refine gJ_callV (As := [_]) b_X12_isActive lX12_123 i_X12_isActive s_X12_isActive dX12_alert_182 (c12_isActive hm hV hI a ha) (by first | with_reducible assumption | with_reducible exact gUp_s | with_reducible exact gUp_n (by with_reducible assumption) (by omega) | exact gUp_n (by assumption) (by omega) | assumption) rfl rfl (Nat.le_of_ble_eq_true rfl) rfl (by decide) (fun M182 v_ h182 => ?_)
      obtain ⟨e_, rfl⟩ := h182
      replace e_ := e_.symm
      subst e_
      refine gJ_if_eqB (tgt := 192) dX12_alert_185 (by decide) (fun c185 => ?_) (fun c185 => ?_)
      · refine gJ_iconst (v := 0) dX12_alert_192 (by decide) ?_
        refine gJ_iret dX12_alert_193 rfl ?_
        refine ⟨rfl, ?_⟩
        rw [mAlertN, c185]
        rfl
      · refine gJ_iconst (v := 1) dX12_alert_188 (by decide) ?_
        refine gJ_goto (tgt := 193) dX12_alert_189 (by decide) ?_
        refine gJ_iret dX12_alert_193 rfl ?_
        refine ⟨rfl, ?_⟩
        rw [mAlertN, c185]
        rfl
    · refine gJ_tableIn (off := 154) (tgt := 194) dX12_alert_40 (by decide) (by decide) (by decide) (by decide) ?_
      refine gJ_aload_n dX12_alert_194 rfl rfl ?_
      refine gJ_iload dX12_alert_195 rfl ?_
      refine gJ_callV (As := [_]) b_X12_flaps lX12_110 i_X12_flaps s_X12_flaps dX12_alert_197 (c12_flaps hm hV hI a ha) (by first | with_reducible assumption | with_reducible exact gUp_s | with_reducible exact gUp_n (by with_reducible assumption) (by omega) | exact gUp_n (by assumption) (by omega) | assumption) rfl rfl (Nat.le_of_ble_eq_true rfl) rfl (by decide) (fun M197 v_ h197 => ?_)
      obtain ⟨e_, rfl⟩ := h197
      replace e_ := e_.symm
      subst e_
      refine gJ_iret dX12_alert_200 rfl ?_
      exact ⟨rfl, rfl⟩
    · refine gJ_tableIn (off := 161) (tgt := 201) dX12_alert_40 (by decide) (by decide) (by decide) (by decide) ?_
      refine gJ_aload_n dX12_alert_201 rfl rfl ?_
      refine gJ_iload dX12_alert_202 rfl ?_
      refine gJ_callV (As := [_]) b_X12_keyOf lX12_126 i_X12_keyOf s_X12_keyOf dX12_alert_204 (c12_keyOf hm hV a ha) (by first | with_reducible assumption | with_reducible exact gUp_s | with_reducible exact gUp_n (by with_reducible assumption) (by omega) | exact gUp_n (by assumption) (by omega) | assumption) rfl rfl (Nat.le_of_ble_eq_true rfl) rfl (by decide) (fun M204 v_ h204 => ?_)
      obtain ⟨e_, rfl⟩ := h204
      replace e_ := e_.symm
      subst e_
      refine gJ_iret dX12_alert_207 rfl ?_
      exact ⟨rfl, rfl⟩
    · refine gJ_tableIn (off := 168) (tgt := 208) dX12_alert_40 (by decide) (by decide) (by decide) (by decide) ?_
      refine gJ_aload_n dX12_alert_208 rfl rfl ?_
      refine gJ_iload dX12_alert_209 rfl ?_
      refine gJ_callV (As := [_]) b_X12_silenceOf lX12_113 i_X12_silenceOf s_X12_silenceOf dX12_alert_211 (c12_silenceOf hm hV hI a ha) (by first | with_reducible assumption | with_reducible exact gUp_s | with_reducible exact gUp_n (by with_reducible assumption) (by omega) | exact gUp_n (by assumption) (by omega) | assumption) rfl rfl (Nat.le_of_ble_eq_true rfl) rfl (by decide) (fun M211 v_ h211 => ?_)
      obtain ⟨e_, rfl⟩ := h211
      replace e_ := e_.symm
      subst e_
      refine gJ_iret dX12_alert_214 rfl ?_
      exact ⟨rfl, rfl⟩
    · refine gJ_tableIn (off := 175) (tgt := 215) dX12_alert_40 (by decide) (by decide) (by decide) (by decide) ?_
      refine gJ_aload_n dX12_alert_215 rfl rfl ?_
      refine gJ_iload dX12_alert_216 rfl ?_
      refine gJ_callV (As := [_]) b_X12_inhibitorOf lX12_120 i_X12_inhibitorOf s_X12_inhibitorOf dX12_alert_218 (c12_inhibitorOf hm hV hI a ha) (by first | with_reducible assumption | with_reducible exact gUp_s | with_reducible exact gUp_n (by with_reducible assumption) (by omega) | exact gUp_n (by assumption) (by omega) | assumption) rfl rfl (Nat.le_of_ble_eq_true rfl) rfl (by decide) (fun M218 v_ h218 => ?_)
      obtain ⟨e_, rfl⟩ := h218
      replace e_ := e_.symm
      subst e_
      refine gJ_iret dX12_alert_221 rfl ?_
      exact ⟨rfl, rfl⟩
    · refine gJ_tableOut (tgt := 222) dX12_alert_40 (by decide) (by decide) ?_
      refine gJ_aload_n dX12_alert_222 rfl rfl ?_
      refine gJ_iload dX12_alert_223 rfl ?_
      refine gJ_callV (As := [_]) b_X12_holds lX12_132 i_X12_holds s_X12_holds dX12_alert_225 (c12_holds hm hV hI a ha) (by first | with_reducible assumption | with_reducible exact gUp_s | with_reducible exact gUp_n (by with_reducible assumption) (by omega) | exact gUp_n (by assumption) (by omega) | assumption) rfl rfl (Nat.le_of_ble_eq_true rfl) rfl (by decide) (fun M225 v_ h225 => ?_)
      obtain ⟨e_, rfl⟩ := h225
      replace e_ := e_.symm
      subst e_
      refine gJ_if_eqB (tgt := 235) dX12_alert_228 (by decide) (fun c228 => ?_) (fun c228 => ?_)
      · refine gJ_iconst (v := 0) dX12_alert_235 (by decide) ?_
        refine gJ_iret dX12_alert_236 rfl ?_
        refine ⟨rfl, ?_⟩
        show _ = some (Value.int (gb (mHolds V a)))
        rw [c228]
        rfl
      · refine gJ_iconst (v := 1) dX12_alert_231 (by decide) ?_
        refine gJ_goto (tgt := 236) dX12_alert_232 (by decide) ?_
        refine gJ_iret dX12_alert_236 rfl ?_
        refine ⟨rfl, ?_⟩
        show _ = some (Value.int (gb (mHolds V a)))
        rw [c228]
        rfl
  show gJ _ _ _ _ _ _ 0 [(0, _), (1, _), (2, _), (3, _)] [] _
  refine gJ_aload_n dX12_alert_0 rfl rfl ?_
  refine gJ_iconst (v := 0) dX12_alert_1 (by decide) ?_
  refine gJ_iload_n dX12_alert_2 rfl rfl ?_
  refine gJ_callV (As := [_, _]) b_X12_isOne lX12_82 i_X12_isOne s_X12_isOne dX12_alert_3 (c12_isOne hm hV 0 (by decide) r) (by first | with_reducible assumption | with_reducible exact gUp_s | with_reducible exact gUp_n (by with_reducible assumption) (by omega) | exact gUp_n (by assumption) (by omega) | assumption) rfl rfl (Nat.le_of_ble_eq_true rfl) rfl (by decide) (fun M3 v_ h3 => ?_)
  obtain ⟨e_, rfl⟩ := h3
  replace e_ := e_.symm
  subst e_
  refine gJ_if_eqB (tgt := 29) dX12_alert_6 (by decide) (fun c6 => ?_) (fun c6 => ?_)
  · refine gJ_iconst (v := -1) dX12_alert_29 (by decide) ?_
    refine gJ_iret dX12_alert_30 rfl ?_
    have hA : aAlert V r s w = -1 := by rw [aAlert, c6, Bool.false_and]; rfl
    rw [hA]
    exact ⟨rfl, rfl⟩
  · refine gJ_iload_n dX12_alert_9 rfl rfl ?_
    refine gJ_iconst (v := 0) dX12_alert_10 (by decide) ?_
    refine gJ_bipush (v := 11) dX12_alert_11 (by decide) ?_
    refine gJ_callS (As := [_, _, _]) b_X12_isIn lX12_35 i_X12_isIn dX12_alert_13 (c12_isIn _ _ _) rfl (Nat.le_of_ble_eq_true rfl) rfl (by decide) (fun M13 v_ h13 => ?_)
    obtain ⟨e_, rfl⟩ := h13
    replace e_ := e_.symm
    subst e_
    refine gJ_if_eqB (tgt := 29) dX12_alert_16 (by decide) (fun c16 => ?_) (fun c16 => ?_)
    · refine gJ_iconst (v := -1) dX12_alert_29 (by decide) ?_
      refine gJ_iret dX12_alert_30 rfl ?_
      have hA : aAlert V r s w = -1 := by rw [aAlert, mIn, c16, Bool.false_and, Bool.and_false]; rfl
      rw [hA]
      exact ⟨rfl, rfl⟩
    · refine gJ_iload_n dX12_alert_19 rfl rfl ?_
      refine gJ_iconst (v := 0) dX12_alert_20 (by decide) ?_
      refine gJ_bipush (v := 10) dX12_alert_21 (by decide) ?_
      refine gJ_callS (As := [_, _, _]) b_X12_isIn lX12_35 i_X12_isIn dX12_alert_23 (c12_isIn _ _ _) rfl (Nat.le_of_ble_eq_true rfl) rfl (by decide) (fun M23 v_ h23 => ?_)
      obtain ⟨e_, rfl⟩ := h23
      replace e_ := e_.symm
      subst e_
      refine gJ_if_neB (tgt := 31) dX12_alert_26 (by decide) (fun c26 => ?_) (fun c26 => ?_)
      · have c6' := c6
        rw [mOne, mIn, Bool.and_eq_true] at c6'
        obtain ⟨c6a, c6b⟩ := c6'
        obtain ⟨r', hr1, hr0, hr2, hr3⟩ := mIn_nat (lo := 0) (hi := mMst 0 - 1) c6a (by decide)
        have hr5 : r' < 5 := by have : mMst 0 - 1 = 4 := rfl; omega
        obtain ⟨s', hs1, hs0, hs2, hs3⟩ := mIn_nat (lo := 0) (hi := 11) c16 (by decide)
        obtain ⟨z, hz1, hz0, hz2, hz3⟩ := mIn_nat (lo := 0) (hi := 10) c26 (by decide)
        subst hr2 hs2 hz2
        refine gJ_bipush (v := 12) dX12_alert_31 (by decide) ?_
        refine gJ_iload_n dX12_alert_33 rfl rfl ?_
        refine gJ_imulN (a := 12) (b := r') dX12_alert_34 (by first | with_reducible rfl | rfl) (by first | with_reducible rfl | rfl) ?_
        refine gJ_iload_n dX12_alert_35 rfl rfl ?_
        refine gJ_iaddN (a := (12 * r')) (b := s') dX12_alert_36 (by first | with_reducible rfl | rfl) (by first | with_reducible rfl | rfl) ?_
        refine gJ_istore (lv2 := [(4, _), (0, _), (1, _), (2, _), (3, _)]) dX12_alert_37 rfl rfl ?_
        refine gJ_iload_n dX12_alert_39 rfl rfl ?_
        have hA : aAlert V (nI r') (nI s') (nI z) = mAlertN V (12 * r' + s') z := by rw [aAlert, c6, mIn, c16, mIn, c26, hr3, hs3, hz3]; rfl
        rw [hA]
        exact gJ_ls (sw r' s' z (12 * r' + s') hz1 (by omega)) ⟨rfl, rfl, rfl, rfl, rfl, trivial⟩
      · refine gJ_iconst (v := -1) dX12_alert_29 (by decide) ?_
        refine gJ_iret dX12_alert_30 rfl ?_
        have hA : aAlert V r s w = -1 := by rw [aAlert, mIn, mIn, c26, Bool.and_false, Bool.and_false]; rfl
        rw [hA]
        exact ⟨rfl, rfl⟩
end MODEL
