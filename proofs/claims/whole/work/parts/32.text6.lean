def mV0 : Nat → Int32 := upd (upd (upd (upd (upd (fun _ => 0) 1842 5) 1843 60) 1844 30) 1845 4) 1846 1
section MODEL
variable {G : gG} {M : gM} {m : Nat}
set_option maxRecDepth 20000 in
theorem c12_init (hn : M.2 = m + 1) (hm : M.1 m = some (gO 11 [.null, .null, .null, .null, .null, .null, .int 0, .null, .int 0, .int 0, .int 0, .null])) : gCon G kX12_init 1 8 6453 M [.ref m] (fun M2 v => v = none ∧ M2.2 = m + 9 ∧ (∀ q, q < m → M2.1 q = M.1 q) ∧ M2.1 m = some (mO m 0 0 0 0) ∧ M2.1 (m + 1) = some (gI 1999 mV0) ∧ M2.1 (m + 2) = some (gI 1999 (fun _ => 0)) ∧ M2.1 (m + 3) = some (gI 1999 (fun _ => 0)) ∧ M2.1 (m + 4) = some (gL 128 (fun _ => 0)) ∧ M2.1 (m + 5) = some (gL 128 (fun _ => 0)) ∧ M2.1 (m + 6) = some (gL 128 (fun _ => 0)) ∧ M2.1 (m + 7) = some (gI 60 (fun _ => 0)) ∧ M2.1 (m + 8) = some (gI 12 (fun _ => 0))) := by
  obtain ⟨f, n⟩ := M
  have hn' : n = m + 1 := hn
  subst hn'
  clear hn
  refine gCon_of (by decide) (Nat.le_of_ble_eq_true rfl) ?_
  show gJ _ _ _ _ _ _ 0 [(0, _)] [] _
  refine gJ_aload_n dX12_init_0 rfl rfl ?_
  refine gJ_objInit oX12_3 dX12_init_1 (by decide) (by omega) ?_
  refine gJ_aload_n dX12_init_4 rfl rfl ?_
  refine gJ_sipush (v := 1999) dX12_init_5 (by decide) ?_
  refine gJ_newI (N := 1999) (by decide) (by decide) (by decide) dX12_init_8 ?_
  show gJ _ _ _ _ _ _ _ _ (Value.ref (m + 1) :: _) _
  refine gJ_putF fX12_9 rfl rfl dX12_init_10 (by repeat (first | exact gUp_s | exact gNew_s | assumption | refine gUp_n ?_ (by first | omega | (simp only [gUp, gNew]; omega)) | refine gNew_n ?_ (by first | omega | (simp only [gUp, gNew]; omega)))) rfl rfl (Nat.le_of_ble_eq_true rfl) ?_
  refine gJ_aload_n dX12_init_13 rfl rfl ?_
  refine gJ_sipush (v := 1999) dX12_init_14 (by decide) ?_
  refine gJ_newI (N := 1999) (by decide) (by decide) (by decide) dX12_init_17 ?_
  show gJ _ _ _ _ _ _ _ _ (Value.ref (m + 2) :: _) _
  refine gJ_putF fX12_13 rfl rfl dX12_init_19 (by repeat (first | exact gUp_s | exact gNew_s | assumption | refine gUp_n ?_ (by first | omega | (simp only [gUp, gNew]; omega)) | refine gNew_n ?_ (by first | omega | (simp only [gUp, gNew]; omega)))) rfl rfl (Nat.le_of_ble_eq_true rfl) ?_
  refine gJ_aload_n dX12_init_22 rfl rfl ?_
  refine gJ_sipush (v := 1999) dX12_init_23 (by decide) ?_
  refine gJ_newI (N := 1999) (by decide) (by decide) (by decide) dX12_init_26 ?_
  show gJ _ _ _ _ _ _ _ _ (Value.ref (m + 3) :: _) _
  refine gJ_putF fX12_16 rfl rfl dX12_init_28 (by repeat (first | exact gUp_s | exact gNew_s | assumption | refine gUp_n ?_ (by first | omega | (simp only [gUp, gNew]; omega)) | refine gNew_n ?_ (by first | omega | (simp only [gUp, gNew]; omega)))) rfl rfl (Nat.le_of_ble_eq_true rfl) ?_
  refine gJ_aload_n dX12_init_31 rfl rfl ?_
  refine gJ_sipush (v := 128) dX12_init_32 (by decide) ?_
  refine gJ_newL (N := 128) (by decide) (by decide) (by decide) dX12_init_35 ?_
  show gJ _ _ _ _ _ _ _ _ (Value.ref (m + 4) :: _) _
  refine gJ_putF fX12_19 rfl rfl dX12_init_37 (by repeat (first | exact gUp_s | exact gNew_s | assumption | refine gUp_n ?_ (by first | omega | (simp only [gUp, gNew]; omega)) | refine gNew_n ?_ (by first | omega | (simp only [gUp, gNew]; omega)))) rfl rfl (Nat.le_of_ble_eq_true rfl) ?_
  refine gJ_aload_n dX12_init_40 rfl rfl ?_
  refine gJ_sipush (v := 128) dX12_init_41 (by decide) ?_
  refine gJ_newL (N := 128) (by decide) (by decide) (by decide) dX12_init_44 ?_
  show gJ _ _ _ _ _ _ _ _ (Value.ref (m + 5) :: _) _
  refine gJ_putF fX12_23 rfl rfl dX12_init_46 (by repeat (first | exact gUp_s | exact gNew_s | assumption | refine gUp_n ?_ (by first | omega | (simp only [gUp, gNew]; omega)) | refine gNew_n ?_ (by first | omega | (simp only [gUp, gNew]; omega)))) rfl rfl (Nat.le_of_ble_eq_true rfl) ?_
  refine gJ_aload_n dX12_init_49 rfl rfl ?_
  refine gJ_sipush (v := 128) dX12_init_50 (by decide) ?_
  refine gJ_newL (N := 128) (by decide) (by decide) (by decide) dX12_init_53 ?_
  show gJ _ _ _ _ _ _ _ _ (Value.ref (m + 6) :: _) _
  refine gJ_putF fX12_26 rfl rfl dX12_init_55 (by repeat (first | exact gUp_s | exact gNew_s | assumption | refine gUp_n ?_ (by first | omega | (simp only [gUp, gNew]; omega)) | refine gNew_n ?_ (by first | omega | (simp only [gUp, gNew]; omega)))) rfl rfl (Nat.le_of_ble_eq_true rfl) ?_
  refine gJ_aload_n dX12_init_58 rfl rfl ?_
  refine gJ_bipush (v := 60) dX12_init_59 (by decide) ?_
  refine gJ_newI (N := 60) (by decide) (by decide) (by decide) dX12_init_61 ?_
  show gJ _ _ _ _ _ _ _ _ (Value.ref (m + 7) :: _) _
  refine gJ_putF fX12_29 rfl rfl dX12_init_63 (by repeat (first | exact gUp_s | exact gNew_s | assumption | refine gUp_n ?_ (by first | omega | (simp only [gUp, gNew]; omega)) | refine gNew_n ?_ (by first | omega | (simp only [gUp, gNew]; omega)))) rfl rfl (Nat.le_of_ble_eq_true rfl) ?_
  refine gJ_aload_n dX12_init_66 rfl rfl ?_
  refine gJ_bipush (v := 12) dX12_init_67 (by decide) ?_
  refine gJ_newI (N := 12) (by decide) (by decide) (by decide) dX12_init_69 ?_
  show gJ _ _ _ _ _ _ _ _ (Value.ref (m + 8) :: _) _
  refine gJ_putF fX12_32 rfl rfl dX12_init_71 (by repeat (first | exact gUp_s | exact gNew_s | assumption | refine gUp_n ?_ (by first | omega | (simp only [gUp, gNew]; omega)) | refine gNew_n ?_ (by first | omega | (simp only [gUp, gNew]; omega)))) rfl rfl (Nat.le_of_ble_eq_true rfl) ?_
  refine gJ_aload_n dX12_init_74 rfl rfl ?_
  refine gJ_get fX12_9 dX12_init_75 (by repeat (first | exact gUp_s | exact gNew_s | assumption | refine gUp_n ?_ (by first | omega | (simp only [gUp, gNew]; omega)) | refine gNew_n ?_ (by first | omega | (simp only [gUp, gNew]; omega)))) rfl ?_
  refine gJ_sipush (v := 1842) dX12_init_78 (by decide) ?_
  refine gJ_iconst (v := 5) dX12_init_81 (by decide) ?_
  refine gJ_iastN (j := 1842) dX12_init_82 (by repeat (first | exact gUp_s | exact gNew_s | assumption | refine gUp_n ?_ (by first | omega | (simp only [gUp, gNew]; omega)) | refine gNew_n ?_ (by first | omega | (simp only [gUp, gNew]; omega)))) (by first | with_reducible rfl | rfl) (by omega) (by decide) ?_
  try rw [gUp_up]
  refine gJ_aload_n dX12_init_83 rfl rfl ?_
  refine gJ_get fX12_9 dX12_init_84 (by repeat (first | exact gUp_s | exact gNew_s | assumption | refine gUp_n ?_ (by first | omega | (simp only [gUp, gNew]; omega)) | refine gNew_n ?_ (by first | omega | (simp only [gUp, gNew]; omega)))) rfl ?_
  refine gJ_sipush (v := 1843) dX12_init_87 (by decide) ?_
  refine gJ_bipush (v := 60) dX12_init_90 (by decide) ?_
  refine gJ_iastN (j := 1843) dX12_init_92 (by repeat (first | exact gUp_s | exact gNew_s | assumption | refine gUp_n ?_ (by first | omega | (simp only [gUp, gNew]; omega)) | refine gNew_n ?_ (by first | omega | (simp only [gUp, gNew]; omega)))) (by first | with_reducible rfl | rfl) (by omega) (by decide) ?_
  try rw [gUp_up]
  refine gJ_aload_n dX12_init_93 rfl rfl ?_
  refine gJ_get fX12_9 dX12_init_94 (by repeat (first | exact gUp_s | exact gNew_s | assumption | refine gUp_n ?_ (by first | omega | (simp only [gUp, gNew]; omega)) | refine gNew_n ?_ (by first | omega | (simp only [gUp, gNew]; omega)))) rfl ?_
  refine gJ_sipush (v := 1844) dX12_init_97 (by decide) ?_
  refine gJ_bipush (v := 30) dX12_init_100 (by decide) ?_
  refine gJ_iastN (j := 1844) dX12_init_102 (by repeat (first | exact gUp_s | exact gNew_s | assumption | refine gUp_n ?_ (by first | omega | (simp only [gUp, gNew]; omega)) | refine gNew_n ?_ (by first | omega | (simp only [gUp, gNew]; omega)))) (by first | with_reducible rfl | rfl) (by omega) (by decide) ?_
  try rw [gUp_up]
  refine gJ_aload_n dX12_init_103 rfl rfl ?_
  refine gJ_get fX12_9 dX12_init_104 (by repeat (first | exact gUp_s | exact gNew_s | assumption | refine gUp_n ?_ (by first | omega | (simp only [gUp, gNew]; omega)) | refine gNew_n ?_ (by first | omega | (simp only [gUp, gNew]; omega)))) rfl ?_
  refine gJ_sipush (v := 1845) dX12_init_107 (by decide) ?_
  refine gJ_iconst (v := 4) dX12_init_110 (by decide) ?_
  refine gJ_iastN (j := 1845) dX12_init_111 (by repeat (first | exact gUp_s | exact gNew_s | assumption | refine gUp_n ?_ (by first | omega | (simp only [gUp, gNew]; omega)) | refine gNew_n ?_ (by first | omega | (simp only [gUp, gNew]; omega)))) (by first | with_reducible rfl | rfl) (by omega) (by decide) ?_
  try rw [gUp_up]
  refine gJ_aload_n dX12_init_112 rfl rfl ?_
  refine gJ_get fX12_9 dX12_init_113 (by repeat (first | exact gUp_s | exact gNew_s | assumption | refine gUp_n ?_ (by first | omega | (simp only [gUp, gNew]; omega)) | refine gNew_n ?_ (by first | omega | (simp only [gUp, gNew]; omega)))) rfl ?_
  refine gJ_sipush (v := 1846) dX12_init_116 (by decide) ?_
  refine gJ_iconst (v := 1) dX12_init_119 (by decide) ?_
  refine gJ_iastN (j := 1846) dX12_init_120 (by repeat (first | exact gUp_s | exact gNew_s | assumption | refine gUp_n ?_ (by first | omega | (simp only [gUp, gNew]; omega)) | refine gNew_n ?_ (by first | omega | (simp only [gUp, gNew]; omega)))) (by first | with_reducible rfl | rfl) (by omega) (by decide) ?_
  try rw [gUp_up]
  refine gJ_vret dX12_init_121 rfl ?_
  refine ⟨rfl, rfl, fun q hq => ?_, ?_, ?_, ?_, ?_, ?_, ?_, ?_, ?_, ?_⟩
  · (repeat (first | refine gUp_n ?_ (by first | omega | (simp only [gUp, gNew]; omega)) | refine gNew_n ?_ (by first | omega | (simp only [gUp, gNew]; omega))))
    rfl
  all_goals (repeat (first | exact gUp_s | exact gNew_s | refine gUp_n ?_ (by first | omega | (simp only [gUp, gNew]; omega)) | refine gNew_n ?_ (by first | omega | (simp only [gUp, gNew]; omega))))
end MODEL
