def aCountN (V : Nat → Int32) (tn : Int32) (z : Nat) : Int32 := match z with
  | 0 => V 1847
  | 1 => nI (mMany V 0)
  | 2 => nI (mMany V 1)
  | 3 => nI (mMany V 2)
  | 4 => mSum (fun s => V (48 + s)) 12
  | 5 => V 1848
  | 6 => mSum (fun s => V (1586 + 2 * s)) 128
  | 7 => mGr V (mActs V) 60
  | 8 => nI ((List.range 6).countP (mUse V))
  | _ => tn
def aCount (V : Nat → Int32) (tn w : Int32) : Int32 := if mIn w 0 14 = true then (if w.toNatClampNeg < 10 then aCountN V tn w.toNatClampNeg else V (1842 + w.toNatClampNeg - 10)) else -1
section MODEL
variable {G : gG} {M : gM} {m : Nat} {hi tn at_ fa : Int32} {V K IV : Nat → Int32} {S KS IS : Nat → Int64}
set_option maxRecDepth 20000 in
theorem c12_count (hm : M.1 m = some (mO m hi tn at_ fa)) (hV : M.1 (m + 1) = some (gI 1999 V)) (hI : mI V) (w : Int32) : gCon G kX12_count 6 0 0 M [.ref m, .int w] (fun M2 v => M2 = M ∧ v = some (.int (aCount V tn w))) := by
  refine gCon_of (by decide) (Nat.le_of_ble_eq_true rfl) ?_
  have sw : ∀ z, z < 10 → gJ G kX12_count 6 0 0 M 35 [(2, .int 0), (0, .ref m), (1, .int (nI z))] [.int (nI z)] (gQ kX12_count (fun M2 v => M2 = M ∧ v = some (.int (aCountN V tn z)))) := by
    intro z hz
    rcases (show z = 0 ∨ z = 1 ∨ z = 2 ∨ z = 3 ∨ z = 4 ∨ z = 5 ∨ z = 6 ∨ z = 7 ∨ z = 8 ∨ z = 9 by omega) with rfl | rfl | rfl | rfl | rfl | rfl | rfl | rfl | rfl | rfl
    · refine gJ_tableIn (off := 49) (tgt := 84) dX12_count_35 (by decide) (by decide) (by decide) (by decide) ?_
      refine gJ_aload_n dX12_count_84 rfl rfl ?_
      refine gJ_get fX12_9 dX12_count_85 (by first | with_reducible assumption | with_reducible exact gUp_s | with_reducible exact gUp_n (by with_reducible assumption) (by omega) | exact gUp_n (by assumption) (by omega) | assumption) rfl ?_
      refine gJ_sipush (v := 1847) dX12_count_88 (by decide) ?_
      refine gJ_ialdN (j := 1847) dX12_count_91 (by first | with_reducible assumption | with_reducible exact gUp_s | with_reducible exact gUp_n (by with_reducible assumption) (by omega) | exact gUp_n (by assumption) (by omega) | assumption) (by first | with_reducible rfl | rfl) (by omega) (by decide) ?_
      refine gJ_iret dX12_count_92 rfl ?_
      exact ⟨rfl, rfl⟩
    · refine gJ_tableIn (off := 58) (tgt := 93) dX12_count_35 (by decide) (by decide) (by decide) (by decide) ?_
      refine gJ_aload_n dX12_count_93 rfl rfl ?_
      refine gJ_iload_n dX12_count_94 rfl rfl ?_
      refine gJ_iconst (v := 1) dX12_count_95 (by decide) ?_
      refine gJ_isubN (a := 1) (b := 1) dX12_count_96 (by first | with_reducible rfl | rfl) (by first | with_reducible rfl | rfl) (by omega) ?_
      refine gJ_callV (As := [_]) b_X12_many lX12_86 i_X12_many s_X12_many dX12_count_97 (c12_many hm hV 0 (by decide)) (by first | with_reducible assumption | with_reducible exact gUp_s | with_reducible exact gUp_n (by with_reducible assumption) (by omega) | exact gUp_n (by assumption) (by omega) | assumption) rfl rfl (Nat.le_of_ble_eq_true rfl) rfl (by decide) (fun M97 v_ h97 => ?_)
      obtain ⟨e_, rfl⟩ := h97
      replace e_ := e_.symm
      subst e_
      refine gJ_iret dX12_count_100 rfl ?_
      exact ⟨rfl, rfl⟩
    · refine gJ_tableIn (off := 58) (tgt := 93) dX12_count_35 (by decide) (by decide) (by decide) (by decide) ?_
      refine gJ_aload_n dX12_count_93 rfl rfl ?_
      refine gJ_iload_n dX12_count_94 rfl rfl ?_
      refine gJ_iconst (v := 1) dX12_count_95 (by decide) ?_
      refine gJ_isubN (a := 2) (b := 1) dX12_count_96 (by first | with_reducible rfl | rfl) (by first | with_reducible rfl | rfl) (by omega) ?_
      refine gJ_callV (As := [_]) b_X12_many lX12_86 i_X12_many s_X12_many dX12_count_97 (c12_many hm hV 1 (by decide)) (by first | with_reducible assumption | with_reducible exact gUp_s | with_reducible exact gUp_n (by with_reducible assumption) (by omega) | exact gUp_n (by assumption) (by omega) | assumption) rfl rfl (Nat.le_of_ble_eq_true rfl) rfl (by decide) (fun M97 v_ h97 => ?_)
      obtain ⟨e_, rfl⟩ := h97
      replace e_ := e_.symm
      subst e_
      refine gJ_iret dX12_count_100 rfl ?_
      exact ⟨rfl, rfl⟩
    · refine gJ_tableIn (off := 58) (tgt := 93) dX12_count_35 (by decide) (by decide) (by decide) (by decide) ?_
      refine gJ_aload_n dX12_count_93 rfl rfl ?_
      refine gJ_iload_n dX12_count_94 rfl rfl ?_
      refine gJ_iconst (v := 1) dX12_count_95 (by decide) ?_
      refine gJ_isubN (a := 3) (b := 1) dX12_count_96 (by first | with_reducible rfl | rfl) (by first | with_reducible rfl | rfl) (by omega) ?_
      refine gJ_callV (As := [_]) b_X12_many lX12_86 i_X12_many s_X12_many dX12_count_97 (c12_many hm hV 2 (by decide)) (by first | with_reducible assumption | with_reducible exact gUp_s | with_reducible exact gUp_n (by with_reducible assumption) (by omega) | exact gUp_n (by assumption) (by omega) | assumption) rfl rfl (Nat.le_of_ble_eq_true rfl) rfl (by decide) (fun M97 v_ h97 => ?_)
      obtain ⟨e_, rfl⟩ := h97
      replace e_ := e_.symm
      subst e_
      refine gJ_iret dX12_count_100 rfl ?_
      exact ⟨rfl, rfl⟩
    · refine gJ_tableIn (off := 66) (tgt := 101) dX12_count_35 (by decide) (by decide) (by decide) (by decide) ?_
      refine gJ_iconst (v := 0) dX12_count_101 (by decide) ?_
      refine gJ_istore_n (lv2 := [(3, _), (2, _), (0, _), (1, _)]) dX12_count_102 rfl rfl rfl ?_
      exact gJ_ls (c12_sum_has hm hV (nI 4) 13 0 (by omega) (by omega)) ⟨rfl, rfl, rfl, rfl, trivial⟩
    · refine gJ_tableIn (off := 94) (tgt := 129) dX12_count_35 (by decide) (by decide) (by decide) (by decide) ?_
      refine gJ_aload_n dX12_count_129 rfl rfl ?_
      refine gJ_get fX12_9 dX12_count_130 (by first | with_reducible assumption | with_reducible exact gUp_s | with_reducible exact gUp_n (by with_reducible assumption) (by omega) | exact gUp_n (by assumption) (by omega) | assumption) rfl ?_
      refine gJ_sipush (v := 1848) dX12_count_133 (by decide) ?_
      refine gJ_ialdN (j := 1848) dX12_count_136 (by first | with_reducible assumption | with_reducible exact gUp_s | with_reducible exact gUp_n (by with_reducible assumption) (by omega) | exact gUp_n (by assumption) (by omega) | assumption) (by first | with_reducible rfl | rfl) (by omega) (by decide) ?_
      refine gJ_iret dX12_count_137 rfl ?_
      exact ⟨rfl, rfl⟩
    · refine gJ_tableIn (off := 103) (tgt := 138) dX12_count_35 (by decide) (by decide) (by decide) (by decide) ?_
      refine gJ_iconst (v := 0) dX12_count_138 (by decide) ?_
      refine gJ_istore_n (lv2 := [(3, _), (2, _), (0, _), (1, _)]) dX12_count_139 rfl rfl rfl ?_
      exact gJ_ls (c12_sum_open hm hV (nI 6) 129 0 (by omega) (by omega)) ⟨rfl, rfl, rfl, rfl, trivial⟩
    · refine gJ_tableIn (off := 135) (tgt := 170) dX12_count_35 (by decide) (by decide) (by decide) (by decide) ?_
      refine gJ_aload_n dX12_count_170 rfl rfl ?_
      refine gJ_aload_n dX12_count_171 rfl rfl ?_
      refine gJ_callV (As := []) b_X12_actives lX12_148 i_X12_actives s_X12_actives dX12_count_172 (c12_actives hm hV hI) (by first | with_reducible assumption | with_reducible exact gUp_s | with_reducible exact gUp_n (by with_reducible assumption) (by omega) | exact gUp_n (by assumption) (by omega) | assumption) rfl rfl (Nat.le_of_ble_eq_true rfl) rfl (by decide) (fun M172 v_ h172 => ?_)
      obtain ⟨e_, rfl⟩ := h172
      replace e_ := e_.symm
      subst e_
      refine gJ_callV (As := [_]) b_X12_greatest lX12_142 i_X12_greatest s_X12_greatest dX12_count_175 (c12_greatest hm hV _) (by first | with_reducible assumption | with_reducible exact gUp_s | with_reducible exact gUp_n (by with_reducible assumption) (by omega) | exact gUp_n (by assumption) (by omega) | assumption) rfl rfl (Nat.le_of_ble_eq_true rfl) rfl (by decide) (fun M175 v_ h175 => ?_)
      obtain ⟨e_, rfl⟩ := h175
      replace e_ := e_.symm
      subst e_
      refine gJ_iret dX12_count_178 rfl ?_
      exact ⟨rfl, rfl⟩
    · refine gJ_tableIn (off := 144) (tgt := 179) dX12_count_35 (by decide) (by decide) (by decide) (by decide) ?_
      refine gJ_aload_n dX12_count_179 rfl rfl ?_
      refine gJ_callV (As := []) b_X12_silencing lX12_183 i_X12_silencing s_X12_silencing dX12_count_180 (c12_silencing hm hV hI) (by first | with_reducible assumption | with_reducible exact gUp_s | with_reducible exact gUp_n (by with_reducible assumption) (by omega) | exact gUp_n (by assumption) (by omega) | assumption) rfl rfl (Nat.le_of_ble_eq_true rfl) rfl (by decide) (fun M180 v_ h180 => ?_)
      obtain ⟨e_, rfl⟩ := h180
      replace e_ := e_.symm
      subst e_
      refine gJ_iret dX12_count_183 rfl ?_
      exact ⟨rfl, rfl⟩
    · refine gJ_tableOut (tgt := 184) dX12_count_35 (by decide) (by decide) ?_
      refine gJ_aload_n dX12_count_184 rfl rfl ?_
      refine gJ_get fX12_39 dX12_count_185 (by first | with_reducible assumption | with_reducible exact gUp_s | with_reducible exact gUp_n (by with_reducible assumption) (by omega) | exact gUp_n (by assumption) (by omega) | assumption) rfl ?_
      refine gJ_iret dX12_count_188 rfl ?_
      exact ⟨rfl, rfl⟩
  show gJ _ _ _ _ _ _ 0 [(0, _), (1, _)] [] _
  refine gJ_iload_n dX12_count_0 rfl rfl ?_
  refine gJ_iconst (v := 0) dX12_count_1 (by decide) ?_
  refine gJ_bipush (v := 14) dX12_count_2 (by decide) ?_
  refine gJ_callS (As := [_, _, _]) b_X12_isIn lX12_35 i_X12_isIn dX12_count_4 (c12_isIn _ _ _) rfl (Nat.le_of_ble_eq_true rfl) rfl (by decide) (fun M4 v_ h4 => ?_)
  obtain ⟨e_, rfl⟩ := h4
  replace e_ := e_.symm
  subst e_
  refine gJ_if_neB (tgt := 12) dX12_count_7 (by decide) (fun c7 => ?_) (fun c7 => ?_)
  · obtain ⟨z, hz1, hz0, hz2, hz3⟩ := mIn_nat (lo := 0) (hi := 14) c7 (by decide)
    subst hz2
    refine gJ_iload_n dX12_count_12 rfl rfl ?_
    refine gJ_bipush (v := 10) dX12_count_13 (by decide) ?_
    refine gJ_icmp_ltN (tgt := 32) (a := z) (b := 10) (by first | with_reducible rfl | rfl) (by first | with_reducible rfl | rfl) (by omega) (by omega) dX12_count_15 (by decide) (fun c15 => ?_) (fun c15 => ?_)
    · refine gJ_iconst (v := 0) dX12_count_32 (by decide) ?_
      refine gJ_istore_n (lv2 := [(2, _), (0, _), (1, _)]) dX12_count_33 rfl rfl rfl ?_
      refine gJ_iload_n dX12_count_34 rfl rfl ?_
      have hA : aCount V tn (nI z) = aCountN V tn z := by rw [aCount, mIn, c7, hz3, if_pos rfl, if_pos c15]
      rw [hA]
      exact gJ_ls (sw z c15) ⟨rfl, rfl, rfl, trivial⟩
    · refine gJ_aload_n dX12_count_18 rfl rfl ?_
      refine gJ_get fX12_9 dX12_count_19 (by first | with_reducible assumption | with_reducible exact gUp_s | with_reducible exact gUp_n (by with_reducible assumption) (by omega) | exact gUp_n (by assumption) (by omega) | assumption) rfl ?_
      refine gJ_sipush (v := 1842) dX12_count_22 (by decide) ?_
      refine gJ_iload_n dX12_count_25 rfl rfl ?_
      refine gJ_iaddN (a := 1842) (b := z) dX12_count_26 (by first | with_reducible rfl | rfl) (by first | with_reducible rfl | rfl) ?_
      refine gJ_bipush (v := 10) dX12_count_27 (by decide) ?_
      refine gJ_isubN (a := (1842 + z)) (b := 10) dX12_count_29 (by first | with_reducible rfl | rfl) (by first | with_reducible rfl | rfl) (by omega) ?_
      refine gJ_ialdN (j := ((1842 + z) - 10)) dX12_count_30 (by first | with_reducible assumption | with_reducible exact gUp_s | with_reducible exact gUp_n (by with_reducible assumption) (by omega) | exact gUp_n (by assumption) (by omega) | assumption) (by first | with_reducible rfl | rfl) (by omega) (by decide) ?_
      refine gJ_iret dX12_count_31 rfl ?_
      have hA : aCount V tn (nI z) = V (1842 + z - 10) := by rw [aCount, mIn, c7, hz3, if_pos rfl, if_neg c15]
      rw [hA]
      exact ⟨rfl, rfl⟩
  · refine gJ_iconst (v := -1) dX12_count_10 (by decide) ?_
    refine gJ_iret dX12_count_11 rfl ?_
    have hA : aCount V tn w = -1 := by rw [aCount, mIn, c7]; rfl
    rw [hA]
    exact ⟨rfl, rfl⟩
end MODEL
