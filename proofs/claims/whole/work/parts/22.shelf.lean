/-! Shelf and Fitting -/

set_option maxHeartbeats 4000000 in
set_option maxRecDepth 100000 in
theorem kX9_empty (l : Launch) (E : EX) (s0 s1 s2 s3 und top : Nat) (kp : Nat → Int32)  : M l E yX9_empty wsX9_empty { frames := 0, cells := 0, slots := 0, locals := 0 } 0 0 [.ref s0] [(s0, oB 9 [.ref s1, .ref s2, .ref s3, .int (nI und), .int (nI top)]), (s3, zA E 2 kp)] (is1 none [(s0, oB 9 [.ref s1, .ref s2, .ref s3, .int (nI 0), .int (nI top)]), (s3, zA E 2 (filA kp (nI 0) 2))]) := by
  refine M.ofG (cc := cX9_empty) (maxL := 2) (ret := none) (lv := [(0, .ref s0)]) (own := RX9) (by decide) rfl rfl (Nat.le_of_ble_eq_true rfl) rfl ?_
  intro K C X _
  have i9 : ∀ w ∈ wsX90, w ∈ wsX9_empty := by decide +kernel
  refine g_aload_n C dX9_empty_0 rfl 0 rfl ?_
  refine g_iconst C (nI 0) dX9_empty_1 (by decide) ?_
  refine g_put C i9 tyX9 tyX9_ok nmX9 0 rfl rfl 3 (by decide) (List.mem_of_getElem? (i := 1) rfl) rfl rfl rfl rfl rfl (Nat.le_of_ble_eq_true rfl) dX9_empty_2 (ws' := [(s0, oB 9 [.ref s1, .ref s2, .ref s3, .int (nI 0), .int (nI top)]), (s3, zA E 2 kp)]) rfl ?_
  refine g_iconst C (nI 0) dX9_empty_5 (by decide) ?_
  refine g_istore_n C (lv' := [(1, .int (nI 0)), (0, .ref s0)]) dX9_empty_6 rfl (by decide) rfl ?_
  have L7 : ∀ (zz k : Nat) (u : Nat → Int32), k + zz = 2 + 1 → k ≤ 2 → (u = filA kp (nI 0) k) → G K 0 0 7 [(0, .ref s0), (1, .int (nI k))] [] [(s0, oB 9 [.ref s1, .ref s2, .ref s3, .int (nI 0), .int (nI top)]), (s3, zA E 2 u)] := by
    intro zz
    induction zz with
    | zero => intro k u hL7 gL7; exfalso; omega
    | succ zz ihL7 =>
      intro k u hL7 gL7 hu
      refine g_iload_n C dX9_empty_7 rfl 1 rfl ?_
      refine g_iconst C (nI 2) dX9_empty_8 (by decide) ?_
      refine g_icmp_geN C 25 dX9_empty_9 (by decide) (by omega) (by omega) (fun cq1 => ?_) (fun cq1 => ?_)
      · have hk : k = 2 := by omega
        exact g_vret C X dX9_empty_25 (⟨rfl, by rw [hu, hk]⟩)
      · refine g_aload_n C dX9_empty_12 rfl 0 rfl ?_
        refine g_get C i9 0 rfl rfl 2 (by decide) (List.mem_of_getElem? (i := 2) rfl) rfl rfl dX9_empty_13 ?_
        refine g_iload_n C dX9_empty_16 rfl 1 rfl ?_
        refine g_iconst C (nI 0) dX9_empty_17 (by decide) ?_
        refine g_zast C (ws' := fun fq2 => [(s0, oB 9 [.ref s1, .ref s2, .ref s3, .int (nI 0), .int (nI top)]), (s3, zA E 2 fq2)]) 1 rfl (by omega) (by decide) rfl dX9_empty_18 (fun _ _ => rfl) (fun fq2 efq2 => ?_)
        refine g_iincN C (lv' := [(1, .int (nI (k + 1))), (0, .ref s0)]) dX9_empty_19 1 rfl (by decide) rfl ?_
        refine g_goto C 7 dX9_empty_22 (by decide) ?_
        refine g_sub (lv' := [(0, .ref s0), (1, .int (nI (k + 1)))]) [1, 0] rfl ?_
        exact ihL7 (k + 1) fq2 (by omega) (by omega) (by simp [hu, cq1, efq2, filA_s])
  refine g_sub (lv' := [(0, .ref s0), (1, .int (nI 0))]) [1, 0] rfl ?_
  exact L7 (2 + 1 - 0) 0 kp (by omega) (by omega) ((filA_0 kp (nI 0)).symm)

set_option maxHeartbeats 4000000 in
set_option maxRecDepth 100000 in
theorem kX9_remember (l : Launch) (E : EX) (s0 s1 s2 s3 und top : Nat) (pa : Nat → Int32) (h0 h1 : Nat) (f : Nat → Int32) (hu : und ≤ 10) (ht : top < 10) : M l E yX9_remember wsX9_remember { frames := 1, cells := 0, slots := 0, locals := 18 } 0 0 [.ref s0, .ref h0] [(s0, oB 9 [.ref s1, .ref s2, .ref s3, .int (nI und), .int (nI top)]), (s1, iA E 500 pa), (h0, oB 8 [.ref h1]), (h1, iA E 50 f)] (is1 none [(s0, oB 9 [.ref s1, .ref s2, .ref s3, .int (nI (min (und + 1) 10)), .int (nI ((top + 1) % 10))]), (s1, iA E 500 (va_cpy f pa 0 (top * 50) 50)), (h0, oB 8 [.ref h1]), (h1, iA E 50 f)]) := by
  refine M.ofG (cc := cX9_remember) (maxL := 2) (ret := none) (lv := [(0, .ref s0), (1, .ref h0)]) (own := RX9) (by decide) rfl rfl (Nat.le_of_ble_eq_true rfl) rfl ?_
  intro K C X _
  have i8 : ∀ w ∈ wsX80, w ∈ wsX9_remember := by decide +kernel
  have i9 : ∀ w ∈ wsX90, w ∈ wsX9_remember := by decide +kernel
  refine g_aload_n C dX9_remember_0 rfl 1 rfl ?_
  refine g_get C i8 2 rfl rfl 0 (by decide) (List.mem_of_getElem? (i := 1) rfl) rfl rfl dX9_remember_1 ?_
  refine g_iconst C (nI 0) dX9_remember_4 (by decide) ?_
  refine g_aload_n C dX9_remember_5 rfl 0 rfl ?_
  refine g_get C i9 0 rfl rfl 0 (by decide) (List.mem_of_getElem? (i := 2) rfl) rfl rfl dX9_remember_6 ?_
  refine g_aload_n C dX9_remember_9 rfl 0 rfl ?_
  refine g_get C i9 0 rfl rfl 4 (by decide) (List.mem_of_getElem? (i := 3) rfl) rfl rfl dX9_remember_10 ?_
  refine g_bipush C (nI 50) dX9_remember_13 (by decide) ?_
  refine g_imulN C dX9_remember_15 ?_
  refine g_bipush C (nI 50) dX9_remember_16 (by decide) ?_
  refine g_copy C (ws' := fun fq1 => [(s0, oB 9 [.ref s1, .ref s2, .ref s3, .int (nI und), .int (nI top)]), (s1, iA E 500 fq1), (h0, oB 8 [.ref h1]), (h1, iA E 50 f)]) (List.mem_of_getElem? (i := 4) rfl) (List.mem_of_getElem? (i := 5) rfl) (List.mem_of_getElem? (i := 6) rfl) (List.mem_of_getElem? (i := 7) rfl) 3 1 rfl rfl (by omega) (by omega) (by decide) (by decide) (by decide) (Nat.le_of_ble_eq_true rfl) dX9_remember_18 (fun _ _ => rfl) (fun fq1 efq1 => ?_)
  refine g_aload_n C dX9_remember_21 rfl 0 rfl ?_
  refine g_aload_n C dX9_remember_22 rfl 0 rfl ?_
  refine g_get C i9 0 rfl rfl 4 (by decide) (List.mem_of_getElem? (i := 3) rfl) rfl rfl dX9_remember_23 ?_
  refine g_iconst C (nI 1) dX9_remember_26 (by decide) ?_
  refine g_iaddN C dX9_remember_27 ?_
  refine g_bipush C (nI 10) dX9_remember_28 (by decide) ?_
  refine g_iremN C dX9_remember_30 (by omega) (by omega) (by omega) ?_
  refine g_put C i9 tyX9 tyX9_ok nmX9 0 rfl rfl 4 (by decide) (List.mem_of_getElem? (i := 3) rfl) rfl rfl rfl rfl rfl (Nat.le_of_ble_eq_true rfl) dX9_remember_31 (ws' := [(s0, oB 9 [.ref s1, .ref s2, .ref s3, .int (nI und), .int (nI ((top + 1) % 10))]), (s1, iA E 500 fq1), (h0, oB 8 [.ref h1]), (h1, iA E 50 f)]) rfl ?_
  refine g_aload_n C dX9_remember_34 rfl 0 rfl ?_
  refine g_aload_n C dX9_remember_35 rfl 0 rfl ?_
  refine g_get C i9 0 rfl rfl 3 (by decide) (List.mem_of_getElem? (i := 8) rfl) rfl rfl dX9_remember_36 ?_
  refine g_iconst C (nI 1) dX9_remember_39 (by decide) ?_
  refine g_iaddN C dX9_remember_40 ?_
  refine g_bipush C (nI 10) dX9_remember_41 (by decide) ?_
  refine g_mmin C (List.mem_of_getElem? (i := 9) rfl) (List.mem_of_getElem? (i := 10) rfl) (List.mem_of_getElem? (i := 11) rfl) (List.mem_of_getElem? (i := 12) rfl) (by decide) (Nat.le_of_ble_eq_true rfl) (by decide) dX9_remember_43 ?_
  refine g_as (imin_nI (by omega) (by omega)) ?_
  refine g_put C i9 tyX9 tyX9_ok nmX9 0 rfl rfl 3 (by decide) (List.mem_of_getElem? (i := 8) rfl) rfl rfl rfl rfl rfl (Nat.le_of_ble_eq_true rfl) dX9_remember_46 (ws' := [(s0, oB 9 [.ref s1, .ref s2, .ref s3, .int (nI (min (und + 1) 10)), .int (nI ((top + 1) % 10))]), (s1, iA E 500 fq1), (h0, oB 8 [.ref h1]), (h1, iA E 50 f)]) rfl ?_
  exact g_vret C X dX9_remember_49 (⟨rfl, by simp [efq1]⟩)

set_option maxHeartbeats 4000000 in
set_option maxRecDepth 100000 in
theorem kX9_restoreLatest (l : Launch) (E : EX) (s0 s1 s2 s3 und top : Nat) (pa : Nat → Int32) (h0 h1 : Nat) (f : Nat → Int32) (hu : und ≤ 10) (ht : top < 10) : M l E yX9_restoreLatest wsX9_restoreLatest { frames := 1, cells := 0, slots := 0, locals := 18 } 0 0 [.ref s0, .ref h0] [(s0, oB 9 [.ref s1, .ref s2, .ref s3, .int (nI und), .int (nI top)]), (s1, iA E 500 pa), (h0, oB 8 [.ref h1]), (h1, iA E 50 f)] (is1 (some (.int (bI (¬ und = 0)))) [(s0, oB 9 [.ref s1, .ref s2, .ref s3, .int (nI (und - 1)), .int (nI (if und = 0 then top else (top + 10 - 1) % 10))]), (s1, iA E 500 pa), (h0, oB 8 [.ref h1]), (h1, iA E 50 (if und = 0 then f else va_cpy pa f ((top + 10 - 1) % 10 * 50) 0 50))]) := by
  refine M.ofG (cc := cX9_restoreLatest) (maxL := 2) (ret := (some .boolean)) (lv := [(0, .ref s0), (1, .ref h0)]) (own := RX9) (by decide) rfl rfl (Nat.le_of_ble_eq_true rfl) rfl ?_
  intro K C X _
  have i8 : ∀ w ∈ wsX80, w ∈ wsX9_restoreLatest := by decide +kernel
  have i9 : ∀ w ∈ wsX90, w ∈ wsX9_restoreLatest := by decide +kernel
  refine g_aload_n C dX9_restoreLatest_0 rfl 0 rfl ?_
  refine g_get C i9 0 rfl rfl 3 (by decide) (List.mem_of_getElem? (i := 1) rfl) rfl rfl dX9_restoreLatest_1 ?_
  refine g_if_neN C 9 dX9_restoreLatest_4 (by decide) (by omega) (fun cq1 => ?_) (fun cq1 => ?_)
  · refine g_aload_n C dX9_restoreLatest_9 rfl 0 rfl ?_
    refine g_dup C dX9_restoreLatest_10 rfl ?_
    refine g_get C i9 0 rfl rfl 3 (by decide) (List.mem_of_getElem? (i := 1) rfl) rfl rfl dX9_restoreLatest_11 ?_
    refine g_iconst C (nI 1) dX9_restoreLatest_14 (by decide) ?_
    refine g_isubN C dX9_restoreLatest_15 (by omega) ?_
    refine g_put C i9 tyX9 tyX9_ok nmX9 0 rfl rfl 3 (by decide) (List.mem_of_getElem? (i := 1) rfl) rfl rfl rfl rfl rfl (Nat.le_of_ble_eq_true rfl) dX9_restoreLatest_16 (ws' := [(s0, oB 9 [.ref s1, .ref s2, .ref s3, .int (nI (und - 1)), .int (nI top)]), (s1, iA E 500 pa), (h0, oB 8 [.ref h1]), (h1, iA E 50 f)]) rfl ?_
    refine g_aload_n C dX9_restoreLatest_19 rfl 0 rfl ?_
    refine g_aload_n C dX9_restoreLatest_20 rfl 0 rfl ?_
    refine g_get C i9 0 rfl rfl 4 (by decide) (List.mem_of_getElem? (i := 2) rfl) rfl rfl dX9_restoreLatest_21 ?_
    refine g_bipush C (nI 10) dX9_restoreLatest_24 (by decide) ?_
    refine g_iaddN C dX9_restoreLatest_26 ?_
    refine g_iconst C (nI 1) dX9_restoreLatest_27 (by decide) ?_
    refine g_isubN C dX9_restoreLatest_28 (by omega) ?_
    refine g_bipush C (nI 10) dX9_restoreLatest_29 (by decide) ?_
    refine g_iremN C dX9_restoreLatest_31 (by omega) (by omega) (by omega) ?_
    refine g_put C i9 tyX9 tyX9_ok nmX9 0 rfl rfl 4 (by decide) (List.mem_of_getElem? (i := 2) rfl) rfl rfl rfl rfl rfl (Nat.le_of_ble_eq_true rfl) dX9_restoreLatest_32 (ws' := [(s0, oB 9 [.ref s1, .ref s2, .ref s3, .int (nI (und - 1)), .int (nI ((top + 10 - 1) % 10))]), (s1, iA E 500 pa), (h0, oB 8 [.ref h1]), (h1, iA E 50 f)]) rfl ?_
    refine g_aload_n C dX9_restoreLatest_35 rfl 0 rfl ?_
    refine g_get C i9 0 rfl rfl 0 (by decide) (List.mem_of_getElem? (i := 3) rfl) rfl rfl dX9_restoreLatest_36 ?_
    refine g_aload_n C dX9_restoreLatest_39 rfl 0 rfl ?_
    refine g_get C i9 0 rfl rfl 4 (by decide) (List.mem_of_getElem? (i := 2) rfl) rfl rfl dX9_restoreLatest_40 ?_
    refine g_bipush C (nI 50) dX9_restoreLatest_43 (by decide) ?_
    refine g_imulN C dX9_restoreLatest_45 ?_
    refine g_aload_n C dX9_restoreLatest_46 rfl 1 rfl ?_
    refine g_get C i8 2 rfl rfl 0 (by decide) (List.mem_of_getElem? (i := 4) rfl) rfl rfl dX9_restoreLatest_47 ?_
    refine g_iconst C (nI 0) dX9_restoreLatest_50 (by decide) ?_
    refine g_bipush C (nI 50) dX9_restoreLatest_51 (by decide) ?_
    refine g_copy C (ws' := fun fq2 => [(s0, oB 9 [.ref s1, .ref s2, .ref s3, .int (nI (und - 1)), .int (nI ((top + 10 - 1) % 10))]), (s1, iA E 500 pa), (h0, oB 8 [.ref h1]), (h1, iA E 50 fq2)]) (List.mem_of_getElem? (i := 5) rfl) (List.mem_of_getElem? (i := 6) rfl) (List.mem_of_getElem? (i := 7) rfl) (List.mem_of_getElem? (i := 8) rfl) 1 3 rfl rfl (by omega) (by omega) (by decide) (by decide) (by decide) (Nat.le_of_ble_eq_true rfl) dX9_restoreLatest_53 (fun _ _ => rfl) (fun fq2 efq2 => ?_)
    refine g_iconst C (nI 1) dX9_restoreLatest_56 (by decide) ?_
    exact g_zret C X rfl dX9_restoreLatest_57 (⟨congrArg (fun z => some (Value.int z)) (bI_t (cq1)).symm, by simp [cq1, efq2]⟩)
  · refine g_iconst C (nI 0) dX9_restoreLatest_7 (by decide) ?_
    exact g_zret C X rfl dX9_restoreLatest_8 (⟨congrArg (fun z => some (Value.int z)) (bI_f (fun z => z cq1)).symm, by simp [cq1]⟩)

set_option maxHeartbeats 4000000 in
set_option maxRecDepth 100000 in
theorem kX9_keepImage (l : Launch) (E : EX) (s0 s1 s2 s3 und top : Nat) (im kp : Nat → Int32) (h0 h1 : Nat) (f : Nat → Int32) (j : Nat) (hj : j < 2) : M l E yX9_keepImage wsX9_keepImage { frames := 1, cells := 0, slots := 0, locals := 18 } 0 0 [.ref s0, .int (nI j), .ref h0] [(s0, oB 9 [.ref s1, .ref s2, .ref s3, .int (nI und), .int (nI top)]), (s2, iA E 100 im), (s3, zA E 2 kp), (h0, oB 8 [.ref h1]), (h1, iA E 50 f)] (is1 none [(s0, oB 9 [.ref s1, .ref s2, .ref s3, .int (nI und), .int (nI top)]), (s2, iA E 100 (va_cpy f im 0 (j * 50) 50)), (s3, zA E 2 (upd kp j (nI 1))), (h0, oB 8 [.ref h1]), (h1, iA E 50 f)]) := by
  refine M.ofG (cc := cX9_keepImage) (maxL := 3) (ret := none) (lv := [(0, .ref s0), (1, .int (nI j)), (2, .ref h0)]) (own := RX9) (by decide) rfl rfl (Nat.le_of_ble_eq_true rfl) rfl ?_
  intro K C X _
  have i8 : ∀ w ∈ wsX80, w ∈ wsX9_keepImage := by decide +kernel
  have i9 : ∀ w ∈ wsX90, w ∈ wsX9_keepImage := by decide +kernel
  refine g_aload_n C dX9_keepImage_0 rfl 2 rfl ?_
  refine g_get C i8 3 rfl rfl 0 (by decide) (List.mem_of_getElem? (i := 1) rfl) rfl rfl dX9_keepImage_1 ?_
  refine g_iconst C (nI 0) dX9_keepImage_4 (by decide) ?_
  refine g_aload_n C dX9_keepImage_5 rfl 0 rfl ?_
  refine g_get C i9 0 rfl rfl 1 (by decide) (List.mem_of_getElem? (i := 2) rfl) rfl rfl dX9_keepImage_6 ?_
  refine g_iload_n C dX9_keepImage_9 rfl 1 rfl ?_
  refine g_bipush C (nI 50) dX9_keepImage_10 (by decide) ?_
  refine g_imulN C dX9_keepImage_12 ?_
  refine g_bipush C (nI 50) dX9_keepImage_13 (by decide) ?_
  refine g_copy C (ws' := fun fq1 => [(s0, oB 9 [.ref s1, .ref s2, .ref s3, .int (nI und), .int (nI top)]), (s2, iA E 100 fq1), (s3, zA E 2 kp), (h0, oB 8 [.ref h1]), (h1, iA E 50 f)]) (List.mem_of_getElem? (i := 3) rfl) (List.mem_of_getElem? (i := 4) rfl) (List.mem_of_getElem? (i := 5) rfl) (List.mem_of_getElem? (i := 6) rfl) 4 1 rfl rfl (by omega) (by omega) (by decide) (by decide) (by decide) (Nat.le_of_ble_eq_true rfl) dX9_keepImage_15 (fun _ _ => rfl) (fun fq1 efq1 => ?_)
  refine g_aload_n C dX9_keepImage_18 rfl 0 rfl ?_
  refine g_get C i9 0 rfl rfl 2 (by decide) (List.mem_of_getElem? (i := 7) rfl) rfl rfl dX9_keepImage_19 ?_
  refine g_iload_n C dX9_keepImage_22 rfl 1 rfl ?_
  refine g_iconst C (nI 1) dX9_keepImage_23 (by decide) ?_
  refine g_zast C (ws' := fun fq2 => [(s0, oB 9 [.ref s1, .ref s2, .ref s3, .int (nI und), .int (nI top)]), (s2, iA E 100 fq1), (s3, zA E 2 fq2), (h0, oB 8 [.ref h1]), (h1, iA E 50 f)]) 2 rfl (by omega) (by decide) rfl dX9_keepImage_24 (fun _ _ => rfl) (fun fq2 efq2 => ?_)
  exact g_vret C X dX9_keepImage_25 (⟨rfl, by simp [efq1, efq2]⟩)

set_option maxHeartbeats 4000000 in
set_option maxRecDepth 100000 in
theorem kX9_restoreImage (l : Launch) (E : EX) (s0 s1 s2 s3 und top : Nat) (im kp : Nat → Int32) (h0 h1 : Nat) (f : Nat → Int32) (j : Nat) (hj : j < 2) : M l E yX9_restoreImage wsX9_restoreImage { frames := 1, cells := 0, slots := 0, locals := 18 } 0 0 [.ref s0, .int (nI j), .ref h0] [(s0, oB 9 [.ref s1, .ref s2, .ref s3, .int (nI und), .int (nI top)]), (s2, iA E 100 im), (s3, zA E 2 kp), (h0, oB 8 [.ref h1]), (h1, iA E 50 f)] (is1 (some (.int (bI (¬ kp j = 0)))) [(s0, oB 9 [.ref s1, .ref s2, .ref s3, .int (nI (if kp j = 0 then und else 0)), .int (nI top)]), (s2, iA E 100 im), (s3, zA E 2 kp), (h0, oB 8 [.ref h1]), (h1, iA E 50 (if kp j = 0 then f else va_cpy im f (j * 50) 0 50))]) := by
  refine M.ofG (cc := cX9_restoreImage) (maxL := 3) (ret := (some .boolean)) (lv := [(0, .ref s0), (1, .int (nI j)), (2, .ref h0)]) (own := RX9) (by decide) rfl rfl (Nat.le_of_ble_eq_true rfl) rfl ?_
  intro K C X _
  have i8 : ∀ w ∈ wsX80, w ∈ wsX9_restoreImage := by decide +kernel
  have i9 : ∀ w ∈ wsX90, w ∈ wsX9_restoreImage := by decide +kernel
  refine g_aload_n C dX9_restoreImage_0 rfl 0 rfl ?_
  refine g_get C i9 0 rfl rfl 2 (by decide) (List.mem_of_getElem? (i := 1) rfl) rfl rfl dX9_restoreImage_1 ?_
  refine g_iload_n C dX9_restoreImage_4 rfl 1 rfl ?_
  refine g_zald C 2 rfl (by omega) (by decide) dX9_restoreImage_5 ?_
  refine g_if_ne C 11 dX9_restoreImage_6 (by decide) (fun cq1 => ?_) (fun cq1 => ?_)
  · refine g_aload_n C dX9_restoreImage_11 rfl 0 rfl ?_
    refine g_get C i9 0 rfl rfl 1 (by decide) (List.mem_of_getElem? (i := 2) rfl) rfl rfl dX9_restoreImage_12 ?_
    refine g_iload_n C dX9_restoreImage_15 rfl 1 rfl ?_
    refine g_bipush C (nI 50) dX9_restoreImage_16 (by decide) ?_
    refine g_imulN C dX9_restoreImage_18 ?_
    refine g_aload_n C dX9_restoreImage_19 rfl 2 rfl ?_
    refine g_get C i8 3 rfl rfl 0 (by decide) (List.mem_of_getElem? (i := 3) rfl) rfl rfl dX9_restoreImage_20 ?_
    refine g_iconst C (nI 0) dX9_restoreImage_23 (by decide) ?_
    refine g_bipush C (nI 50) dX9_restoreImage_24 (by decide) ?_
    refine g_copy C (ws' := fun fq2 => [(s0, oB 9 [.ref s1, .ref s2, .ref s3, .int (nI und), .int (nI top)]), (s2, iA E 100 im), (s3, zA E 2 kp), (h0, oB 8 [.ref h1]), (h1, iA E 50 fq2)]) (List.mem_of_getElem? (i := 4) rfl) (List.mem_of_getElem? (i := 5) rfl) (List.mem_of_getElem? (i := 6) rfl) (List.mem_of_getElem? (i := 7) rfl) 1 4 rfl rfl (by omega) (by omega) (by decide) (by decide) (by decide) (Nat.le_of_ble_eq_true rfl) dX9_restoreImage_26 (fun _ _ => rfl) (fun fq2 efq2 => ?_)
    refine g_aload_n C dX9_restoreImage_29 rfl 0 rfl ?_
    refine g_iconst C (nI 0) dX9_restoreImage_30 (by decide) ?_
    refine g_put C i9 tyX9 tyX9_ok nmX9 0 rfl rfl 3 (by decide) (List.mem_of_getElem? (i := 8) rfl) rfl rfl rfl rfl rfl (Nat.le_of_ble_eq_true rfl) dX9_restoreImage_31 (ws' := [(s0, oB 9 [.ref s1, .ref s2, .ref s3, .int (nI 0), .int (nI top)]), (s2, iA E 100 im), (s3, zA E 2 kp), (h0, oB 8 [.ref h1]), (h1, iA E 50 fq2)]) rfl ?_
    refine g_iconst C (nI 1) dX9_restoreImage_34 (by decide) ?_
    exact g_zret C X rfl dX9_restoreImage_35 (⟨congrArg (fun z => some (Value.int z)) (bI_t (cq1)).symm, by simp [cq1, efq2]⟩)
  · refine g_iconst C (nI 0) dX9_restoreImage_9 (by decide) ?_
    exact g_zret C X rfl dX9_restoreImage_10 (⟨congrArg (fun z => some (Value.int z)) (bI_f (fun z => z cq1)).symm, by simp [cq1]⟩)

def mW (ga mo : Nat → Int32) (p g q : Nat) : Int32 := ga (p * 6 + q) + mo ((p + 1) * 64 + (g ||| 2 ^ q))
def bstF (ga mo : Nat → Int32) (p g : Nat) : Nat → Int32
  | 0 => mo ((p + 1) * 64 + g)
  | k + 1 => if tb (nI g) k = 0 then imax (bstF ga mo p g k) (mW ga mo p g k) else bstF ga mo p g k
def fbL (ga mo : Nat → Int32) (p g : Nat) (b : Int32) : Nat → Nat → Int32
  | 0, _ => (-9)
  | z + 1, q => if tb (nI g) q = 0 then (if mW ga mo p g q = b then nI q else fbL ga mo p g b z (q + 1)) else fbL ga mo p g b z (q + 1)
def fsB (ga mo : Nat → Int32) (m p g : Nat) : Int32 := if mo ((p + 1) * 64 + g) = mo (p * 64 + g) then (-9) else fbL ga mo p g (mo (p * 64 + g)) m 0
def pofS (ga mo : Nat → Int32) (m : Nat) : Nat → Nat × Int32
  | 0 => (0, (-9))
  | k + 1 => (if fsB ga mo m k (pofS ga mo m k).1 < 0 then (pofS ga mo m k).1 else (pofS ga mo m k).1 ||| 2 ^ (fsB ga mo m k (pofS ga mo m k).1).toNatClampNeg, fsB ga mo m k (pofS ga mo m k).1)
def gaRow (ga kn f : Nat → Int32) (p : Nat) : Nat → Nat → Int32
  | 0 => ga
  | q + 1 => upd (gaRow ga kn f p q) (p * 6 + q) (tiOn f q (kn p) 7)
def moRow (ga mo : Nat → Int32) (p m : Nat) : Nat → Nat → Int32
  | 0 => mo
  | g + 1 => upd (moRow ga mo p m g) (p * 64 + g) (bstF ga (moRow ga mo p m g) p g m)
def wghS (kn f : Nat → Int32) (m n : Nat) (ga mo : Nat → Int32) : Nat → (Nat → Int32) × (Nat → Int32)
  | 0 => (ga, filA mo (nI 0) 448)
  | i + 1 => (gaRow (wghS kn f m n ga mo i).1 kn f (n - (i + 1)) 6, moRow (gaRow (wghS kn f m n ga mo i).1 kn f (n - (i + 1)) 6) (wghS kn f m n ga mo i).2 (n - (i + 1)) m 64)
theorem or64 {g q : Nat} (hg : g < 64) (hq : q < 6) : g ||| 2 ^ q < 64 := Nat.or_lt_two_pow (n := 6) hg (Nat.pow_lt_pow_right (by decide) hq)
theorem fbL_in (ga mo : Nat → Int32) (p g : Nat) (b : Int32) : ∀ (z q : Nat), fbL ga mo p g b z q < 0 ∨ ∃ j, j < q + z ∧ fbL ga mo p g b z q = nI j
  | 0, _ => Or.inl (by rw [fbL]; decide)
  | z + 1, q => by
    have ih := fbL_in ga mo p g b z (q + 1)
    have ih2 : fbL ga mo p g b z (q + 1) < 0 ∨ ∃ j, j < q + (z + 1) ∧ fbL ga mo p g b z (q + 1) = nI j := by
      rcases ih with h | ⟨j, h, e⟩
      · exact Or.inl h
      · exact Or.inr ⟨j, by omega, e⟩
    rw [fbL]
    by_cases h1 : tb (nI g) q = 0
    · rw [if_pos h1]
      by_cases h2 : mW ga mo p g q = b
      · rw [if_pos h2]; exact Or.inr ⟨q, by omega, rfl⟩
      · rw [if_neg h2]; exact ih2
    · rw [if_neg h1]; exact ih2
theorem fsB_in (ga mo : Nat → Int32) (m p g : Nat) : fsB ga mo m p g < 0 ∨ ∃ j, j < m ∧ fsB ga mo m p g = nI j := by
  unfold fsB
  by_cases h : mo ((p + 1) * 64 + g) = mo (p * 64 + g)
  · rw [if_pos h]; exact Or.inl (by decide)
  · rw [if_neg h]
    rcases fbL_in ga mo p g (mo (p * 64 + g)) m 0 with h | ⟨j, h, e⟩
    · exact Or.inl h
    · exact Or.inr ⟨j, by omega, e⟩

set_option maxHeartbeats 4000000 in
set_option maxRecDepth 100000 in
theorem kX0_mostWith_N (l : Launch) (E : EX) (g0 g1 g2 : Nat) (ga mo : Nat → Int32) (p g : Nat) (hp : p < 6) (hg : g < 64) : M l E yX0_mostWith wsX0_mostWith { frames := 0, cells := 0, slots := 0, locals := 0 } 0 0 [.ref g0, .int (nI p), .int (nI g), .int (-9)] [(g0, oB 0 [.ref g1, .ref g2]), (g1, iA E 36 ga), (g2, iA E 448 mo)] (is1 (some (.int (mo ((p + 1) * 64 + g)))) [(g0, oB 0 [.ref g1, .ref g2]), (g1, iA E 36 ga), (g2, iA E 448 mo)]) := by
  refine M.ofG (cc := cX0_mostWith) (maxL := 5) (ret := (some .int)) (lv := [(0, .ref g0), (1, .int (nI p)), (2, .int (nI g)), (3, .int (-9))]) (own := RX0) (by decide) rfl rfl (Nat.le_of_ble_eq_true rfl) rfl ?_
  intro K C X _
  have i0 : ∀ w ∈ wsX00, w ∈ wsX0_mostWith := by decide +kernel
  refine g_iload_n C dX0_mostWith_0 rfl 1 rfl ?_
  refine g_iconst C (nI 1) dX0_mostWith_1 (by decide) ?_
  refine g_iaddN C dX0_mostWith_2 ?_
  refine g_bipush C (nI 64) dX0_mostWith_3 (by decide) ?_
  refine g_imulN C dX0_mostWith_5 ?_
  refine g_istore C (lv' := [(4, .int (nI ((p + 1) * 64))), (0, .ref g0), (1, .int (nI p)), (2, .int (nI g)), (3, .int (-9))]) dX0_mostWith_6 (by decide) rfl ?_
  refine g_iload_n C dX0_mostWith_8 rfl 4 rfl ?_
  refine g_if_ge C 22 dX0_mostWith_9 (by decide) (fun cq1 => ?_) (fun cq1 => ?_)
  · exact absurd cq1 (by decide)
  · refine g_aload_n C dX0_mostWith_12 rfl 1 rfl ?_
    refine g_get C i0 0 rfl rfl 1 (by decide) (List.mem_of_getElem? (i := 1) rfl) rfl rfl dX0_mostWith_13 ?_
    refine g_iload C dX0_mostWith_16 0 rfl ?_
    refine g_iload_n C dX0_mostWith_18 rfl 3 rfl ?_
    refine g_iaddN C dX0_mostWith_19 ?_
    refine g_iald C 2 rfl (by omega) (by decide) dX0_mostWith_20 ?_
    exact g_iret C X dX0_mostWith_21 (⟨rfl, rfl⟩)

set_option maxHeartbeats 4000000 in
set_option maxRecDepth 100000 in
theorem kX0_mostWith_Q (l : Launch) (E : EX) (g0 g1 g2 : Nat) (ga mo : Nat → Int32) (p g q : Nat) (hp : p < 6) (hg : g < 64) (hq : q < 6) : M l E yX0_mostWith wsX0_mostWith { frames := 0, cells := 0, slots := 0, locals := 0 } 0 0 [.ref g0, .int (nI p), .int (nI g), .int (nI q)] [(g0, oB 0 [.ref g1, .ref g2]), (g1, iA E 36 ga), (g2, iA E 448 mo)] (is1 (some (.int (mW ga mo p g q))) [(g0, oB 0 [.ref g1, .ref g2]), (g1, iA E 36 ga), (g2, iA E 448 mo)]) := by
  refine M.ofG (cc := cX0_mostWith) (maxL := 5) (ret := (some .int)) (lv := [(0, .ref g0), (1, .int (nI p)), (2, .int (nI g)), (3, .int (nI q))]) (own := RX0) (by decide) rfl rfl (Nat.le_of_ble_eq_true rfl) rfl ?_
  intro K C X _
  have i0 : ∀ w ∈ wsX00, w ∈ wsX0_mostWith := by decide +kernel
  refine g_iload_n C dX0_mostWith_0 rfl 1 rfl ?_
  refine g_iconst C (nI 1) dX0_mostWith_1 (by decide) ?_
  refine g_iaddN C dX0_mostWith_2 ?_
  refine g_bipush C (nI 64) dX0_mostWith_3 (by decide) ?_
  refine g_imulN C dX0_mostWith_5 ?_
  refine g_istore C (lv' := [(4, .int (nI ((p + 1) * 64))), (0, .ref g0), (1, .int (nI p)), (2, .int (nI g)), (3, .int (nI q))]) dX0_mostWith_6 (by decide) rfl ?_
  refine g_iload_n C dX0_mostWith_8 rfl 4 rfl ?_
  refine g_if_geN C 22 dX0_mostWith_9 (by decide) (by omega) ?_
  refine g_aload_n C dX0_mostWith_22 rfl 1 rfl ?_
  refine g_get C i0 0 rfl rfl 0 (by decide) (List.mem_of_getElem? (i := 2) rfl) rfl rfl dX0_mostWith_23 ?_
  refine g_iload_n C dX0_mostWith_26 rfl 2 rfl ?_
  refine g_bipush C (nI 6) dX0_mostWith_27 (by decide) ?_
  refine g_imulN C dX0_mostWith_29 ?_
  refine g_iload_n C dX0_mostWith_30 rfl 4 rfl ?_
  refine g_iaddN C dX0_mostWith_31 ?_
  refine g_iald C 1 rfl (by omega) (by decide) dX0_mostWith_32 ?_
  refine g_aload_n C dX0_mostWith_33 rfl 1 rfl ?_
  refine g_get C i0 0 rfl rfl 1 (by decide) (List.mem_of_getElem? (i := 1) rfl) rfl rfl dX0_mostWith_34 ?_
  refine g_iload C dX0_mostWith_37 0 rfl ?_
  refine g_iload_n C dX0_mostWith_39 rfl 3 rfl ?_
  refine g_iconst C (nI 1) dX0_mostWith_40 (by decide) ?_
  refine g_iload_n C dX0_mostWith_41 rfl 4 rfl ?_
  refine g_ishl1 C dX0_mostWith_42 (by omega) ?_
  refine g_iorN C dX0_mostWith_43 ?_
  refine g_iaddN C dX0_mostWith_44 ?_
  refine g_iald C 2 rfl (by have := or64 hg hq; omega) (by decide) dX0_mostWith_45 ?_
  refine g_iadd C dX0_mostWith_46 ?_
  exact g_iret C X dX0_mostWith_47 (⟨rfl, rfl⟩)

set_option maxHeartbeats 4000000 in
set_option maxRecDepth 100000 in
theorem kX0_bestOf (l : Launch) (E : EX) (g0 g1 g2 : Nat) (ga mo : Nat → Int32) (t0 t1 t2 t3 n m : Nat) (p g : Nat) (hm : m ≤ 6) (hp : p < 6) (hg : g < 64) : M l E yX0_bestOf wsX0_bestOf { frames := 1, cells := 0, slots := 0, locals := 24 } 0 0 [.ref g0, .ref t0, .int (nI p), .int (nI g)] [(g0, oB 0 [.ref g1, .ref g2]), (g1, iA E 36 ga), (g2, iA E 448 mo), (t0, oB 10 [.ref t1, .ref t2, .ref t3, .int (nI n), .int (nI m)])] (is1 (some (.int (bstF ga mo p g m))) [(g0, oB 0 [.ref g1, .ref g2]), (g1, iA E 36 ga), (g2, iA E 448 mo), (t0, oB 10 [.ref t1, .ref t2, .ref t3, .int (nI n), .int (nI m)])]) := by
  refine M.ofG (cc := cX0_bestOf) (maxL := 6) (ret := (some .int)) (lv := [(0, .ref g0), (1, .ref t0), (2, .int (nI p)), (3, .int (nI g))]) (own := RX0) (by decide) rfl rfl (Nat.le_of_ble_eq_true rfl) rfl ?_
  intro K C X _
  have i10 : ∀ w ∈ wsX100, w ∈ wsX0_bestOf := by decide +kernel
  refine g_aload_n C dX0_bestOf_0 rfl 0 rfl ?_
  refine g_iload_n C dX0_bestOf_1 rfl 2 rfl ?_
  refine g_iload_n C dX0_bestOf_2 rfl 3 rfl ?_
  refine g_bipush C ((-9)) dX0_bestOf_3 (by decide) ?_
  refine g_callV C (rest := []) (n := 3) (kX0_mostWith_N l E g0 g1 g2 ga mo p g (by omega) (by omega)) gX0_bestOf_X0_mostWith rfl ⟨rfl, rfl⟩ (by decide) (Nat.le_of_ble_eq_true rfl) rfl (by decide +kernel) rfl dX0_bestOf_5 0 rfl rfl [0, 1, 2] [3] rfl rfl ?_
  refine g_is1 (ws2 := [(g0, oB 0 [.ref g1, .ref g2]), (g1, iA E 36 ga), (g2, iA E 448 mo), (t0, oB 10 [.ref t1, .ref t2, .ref t3, .int (nI n), .int (nI m)])]) (st2 := [.int (mo ((p + 1) * 64 + g))]) [1, 2, 3, 0] rfl rfl rfl ?_
  refine g_nm (fun yq1 eyq1 => ?_)
  refine g_istore C (lv' := [(4, .int yq1), (0, .ref g0), (1, .ref t0), (2, .int (nI p)), (3, .int (nI g))]) dX0_bestOf_8 (by decide) rfl ?_
  refine g_iconst C (nI 0) dX0_bestOf_10 (by decide) ?_
  refine g_istore C (lv' := [(5, .int (nI 0)), (4, .int yq1), (0, .ref g0), (1, .ref t0), (2, .int (nI p)), (3, .int (nI g))]) dX0_bestOf_11 (by decide) rfl ?_
  have L13 : ∀ (zz k : Nat) (a : Int32), k + zz = m + 1 → k ≤ m → (a = bstF ga mo p g k) → G K 0 0 13 [(0, .ref g0), (1, .ref t0), (2, .int (nI p)), (3, .int (nI g)), (4, .int a), (5, .int (nI k))] [] [(g0, oB 0 [.ref g1, .ref g2]), (g1, iA E 36 ga), (g2, iA E 448 mo), (t0, oB 10 [.ref t1, .ref t2, .ref t3, .int (nI n), .int (nI m)])] := by
    intro zz
    induction zz with
    | zero => intro k a hL13 gL13; exfalso; omega
    | succ zz ihL13 =>
      intro k a hL13 gL13 ha
      refine g_iload C dX0_bestOf_13 5 rfl ?_
      refine g_aload_n C dX0_bestOf_15 rfl 1 rfl ?_
      refine g_get C i10 3 rfl rfl 4 (by decide) (List.mem_of_getElem? (i := 1) rfl) rfl rfl dX0_bestOf_16 ?_
      refine g_icmp_geN C 52 dX0_bestOf_19 (by decide) (by omega) (by omega) (fun cq2 => ?_) (fun cq2 => ?_)
      · have hk : k = m := by omega
        refine g_iload C dX0_bestOf_52 4 rfl ?_
        exact g_iret C X dX0_bestOf_54 (⟨by rw [ha, hk], rfl⟩)
      · refine g_iload_n C dX0_bestOf_22 rfl 3 rfl ?_
        refine g_iload C dX0_bestOf_23 5 rfl ?_
        refine g_ishr C dX0_bestOf_25 ?_
        refine g_iconst C (nI 1) dX0_bestOf_26 (by decide) ?_
        refine g_iand C dX0_bestOf_27 ?_
        refine g_if_ne C 46 dX0_bestOf_28 (by decide) (fun cq3 => ?_) (fun cq3 => ?_)
        · refine g_iincN C (lv' := [(5, .int (nI (k + 1))), (0, .ref g0), (1, .ref t0), (2, .int (nI p)), (3, .int (nI g)), (4, .int a)]) dX0_bestOf_46 5 rfl (by decide) rfl ?_
          refine g_goto C 13 dX0_bestOf_49 (by decide) ?_
          refine g_sub (lv' := [(0, .ref g0), (1, .ref t0), (2, .int (nI p)), (3, .int (nI g)), (4, .int a), (5, .int (nI (k + 1)))]) [1, 2, 3, 4, 5, 0] rfl ?_
          exact ihL13 (k + 1) a (by omega) (by omega) (by first | omega | (simp [bstF, eyq1, ha, cq2, cq3]; done))
        · refine g_iload C dX0_bestOf_31 4 rfl ?_
          refine g_aload_n C dX0_bestOf_33 rfl 0 rfl ?_
          refine g_iload_n C dX0_bestOf_34 rfl 2 rfl ?_
          refine g_iload_n C dX0_bestOf_35 rfl 3 rfl ?_
          refine g_iload C dX0_bestOf_36 5 rfl ?_
          refine g_callV C (rest := [.int a]) (n := 3) (kX0_mostWith_Q l E g0 g1 g2 ga mo p g k (by omega) (by omega) (by omega)) gX0_bestOf_X0_mostWith rfl ⟨rfl, rfl⟩ (by decide) (Nat.le_of_ble_eq_true rfl) rfl (by decide +kernel) rfl dX0_bestOf_38 0 rfl rfl [0, 1, 2] [3] rfl rfl ?_
          refine g_is1 (ws2 := [(g0, oB 0 [.ref g1, .ref g2]), (g1, iA E 36 ga), (g2, iA E 448 mo), (t0, oB 10 [.ref t1, .ref t2, .ref t3, .int (nI n), .int (nI m)])]) (st2 := [.int (mW ga mo p g k), .int a]) [1, 2, 3, 0] rfl rfl rfl ?_
          refine g_mmax C (List.mem_of_getElem? (i := 2) rfl) (List.mem_of_getElem? (i := 3) rfl) (List.mem_of_getElem? (i := 4) rfl) (List.mem_of_getElem? (i := 5) rfl) (by decide) (Nat.le_of_ble_eq_true rfl) (by decide) dX0_bestOf_41 ?_
          refine g_nm (fun yq4 eyq4 => ?_)
          refine g_istore C (lv' := [(4, .int yq4), (0, .ref g0), (1, .ref t0), (2, .int (nI p)), (3, .int (nI g)), (5, .int (nI k))]) dX0_bestOf_44 (by decide) rfl ?_
          refine g_iincN C (lv' := [(5, .int (nI (k + 1))), (4, .int yq4), (0, .ref g0), (1, .ref t0), (2, .int (nI p)), (3, .int (nI g))]) dX0_bestOf_46 5 rfl (by decide) rfl ?_
          refine g_goto C 13 dX0_bestOf_49 (by decide) ?_
          refine g_sub (lv' := [(0, .ref g0), (1, .ref t0), (2, .int (nI p)), (3, .int (nI g)), (4, .int yq4), (5, .int (nI (k + 1)))]) [2, 3, 4, 5, 1, 0] rfl ?_
          exact ihL13 (k + 1) yq4 (by omega) (by omega) (by first | omega | (simp [bstF, eyq1, ha, cq2, cq3, eyq4]; done))
  refine g_sub (lv' := [(0, .ref g0), (1, .ref t0), (2, .int (nI p)), (3, .int (nI g)), (4, .int yq1), (5, .int (nI 0))]) [2, 3, 4, 5, 1, 0] rfl ?_
  exact L13 (m + 1 - 0) 0 yq1 (by omega) (by omega) (by subst_vars; rfl)

set_option maxHeartbeats 4000000 in
set_option maxRecDepth 100000 in
theorem kX0_explained (l : Launch) (E : EX) (g0 g1 g2 : Nat) (ga mo : Nat → Int32)  : M l E yX0_explained wsX0_explained { frames := 0, cells := 0, slots := 0, locals := 0 } 0 0 [.ref g0] [(g0, oB 0 [.ref g1, .ref g2]), (g1, iA E 36 ga), (g2, iA E 448 mo)] (is1 (some (.int (mo 0))) [(g0, oB 0 [.ref g1, .ref g2]), (g1, iA E 36 ga), (g2, iA E 448 mo)]) := by
  refine M.ofG (cc := cX0_explained) (maxL := 1) (ret := (some .int)) (lv := [(0, .ref g0)]) (own := RX0) (by decide) rfl rfl (Nat.le_of_ble_eq_true rfl) rfl ?_
  intro K C X _
  have i0 : ∀ w ∈ wsX00, w ∈ wsX0_explained := by decide +kernel
  refine g_aload_n C dX0_explained_0 rfl 0 rfl ?_
  refine g_get C i0 0 rfl rfl 1 (by decide) (List.mem_of_getElem? (i := 1) rfl) rfl rfl dX0_explained_1 ?_
  refine g_iconst C (nI 0) dX0_explained_4 (by decide) ?_
  refine g_iald C 2 rfl (by omega) (by decide) dX0_explained_5 ?_
  exact g_iret C X dX0_explained_6 (⟨rfl, rfl⟩)

set_option maxHeartbeats 4000000 in
set_option maxRecDepth 100000 in
theorem kX0_firstBest (l : Launch) (E : EX) (g0 g1 g2 : Nat) (ga mo : Nat → Int32) (t0 t1 t2 t3 n m : Nat) (p g : Nat) (hm : m ≤ 6) (hp : p < 6) (hg : g < 64) : M l E yX0_firstBest wsX0_firstBest { frames := 1, cells := 0, slots := 0, locals := 24 } 0 0 [.ref g0, .ref t0, .int (nI p), .int (nI g)] [(g0, oB 0 [.ref g1, .ref g2]), (g1, iA E 36 ga), (g2, iA E 448 mo), (t0, oB 10 [.ref t1, .ref t2, .ref t3, .int (nI n), .int (nI m)])] (is1 (some (.int (fsB ga mo m p g))) [(g0, oB 0 [.ref g1, .ref g2]), (g1, iA E 36 ga), (g2, iA E 448 mo), (t0, oB 10 [.ref t1, .ref t2, .ref t3, .int (nI n), .int (nI m)])]) := by
  refine M.ofG (cc := cX0_firstBest) (maxL := 6) (ret := (some .int)) (lv := [(0, .ref g0), (1, .ref t0), (2, .int (nI p)), (3, .int (nI g))]) (own := RX0) (by decide) rfl rfl (Nat.le_of_ble_eq_true rfl) rfl ?_
  intro K C X _
  have i0 : ∀ w ∈ wsX00, w ∈ wsX0_firstBest := by decide +kernel
  have i10 : ∀ w ∈ wsX100, w ∈ wsX0_firstBest := by decide +kernel
  refine g_aload_n C dX0_firstBest_0 rfl 0 rfl ?_
  refine g_get C i0 0 rfl rfl 1 (by decide) (List.mem_of_getElem? (i := 1) rfl) rfl rfl dX0_firstBest_1 ?_
  refine g_iload_n C dX0_firstBest_4 rfl 2 rfl ?_
  refine g_bipush C (nI 64) dX0_firstBest_5 (by decide) ?_
  refine g_imulN C dX0_firstBest_7 ?_
  refine g_iload_n C dX0_firstBest_8 rfl 3 rfl ?_
  refine g_iaddN C dX0_firstBest_9 ?_
  refine g_iald C 2 rfl (by omega) (by decide) dX0_firstBest_10 ?_
  refine g_nm (fun yq1 eyq1 => ?_)
  refine g_istore C (lv' := [(4, .int yq1), (0, .ref g0), (1, .ref t0), (2, .int (nI p)), (3, .int (nI g))]) dX0_firstBest_11 (by decide) rfl ?_
  refine g_aload_n C dX0_firstBest_13 rfl 1 rfl ?_
  refine g_iload_n C dX0_firstBest_14 rfl 3 rfl ?_
  refine g_iload_n C dX0_firstBest_15 rfl 4 rfl ?_
  refine g_bipush C ((-9)) dX0_firstBest_16 (by decide) ?_
  refine g_callV C (rest := []) (n := 3) (kX0_mostWith_N l E g0 g1 g2 ga mo p g (by omega) (by omega)) gX0_firstBest_X0_mostWith rfl ⟨rfl, rfl⟩ (by decide) (Nat.le_of_ble_eq_true rfl) rfl (by decide +kernel) rfl dX0_firstBest_18 0 rfl rfl [0, 1, 2] [3] rfl rfl ?_
  refine g_is1 (ws2 := [(g0, oB 0 [.ref g1, .ref g2]), (g1, iA E 36 ga), (g2, iA E 448 mo), (t0, oB 10 [.ref t1, .ref t2, .ref t3, .int (nI n), .int (nI m)])]) (st2 := [.int (mo ((p + 1) * 64 + g))]) [1, 2, 3, 0] rfl rfl rfl ?_
  refine g_iload C dX0_firstBest_21 0 rfl ?_
  refine g_icmp_ne C 29 dX0_firstBest_23 (by decide) (fun cq2 => ?_) (fun cq2 => ?_)
  · have he : fsB ga mo m p g = fbL ga mo p g (mo (p * 64 + g)) m 0 := if_neg (by rw [← eyq1]; exact cq2)
    refine g_iconst C (nI 0) dX0_firstBest_29 (by decide) ?_
    refine g_istore C (lv' := [(5, .int (nI 0)), (4, .int yq1), (0, .ref g0), (1, .ref t0), (2, .int (nI p)), (3, .int (nI g))]) dX0_firstBest_30 (by decide) rfl ?_
    have L32 : ∀ (zz k : Nat) , k + zz = m + 1 → k ≤ m → (fbL ga mo p g (mo (p * 64 + g)) (m - k) k = fsB ga mo m p g) → G K 0 0 32 [(0, .ref g0), (1, .ref t0), (2, .int (nI p)), (3, .int (nI g)), (4, .int yq1), (5, .int (nI k))] [] [(g0, oB 0 [.ref g1, .ref g2]), (g1, iA E 36 ga), (g2, iA E 448 mo), (t0, oB 10 [.ref t1, .ref t2, .ref t3, .int (nI n), .int (nI m)])] := by
      intro zz
      induction zz with
      | zero => intro k  hL32 gL32; exfalso; omega
      | succ zz ihL32 =>
        intro k  hL32 gL32 ha
        refine g_iload C dX0_firstBest_32 5 rfl ?_
        refine g_aload_n C dX0_firstBest_34 rfl 1 rfl ?_
        refine g_get C i10 3 rfl rfl 4 (by decide) (List.mem_of_getElem? (i := 2) rfl) rfl rfl dX0_firstBest_35 ?_
        refine g_icmp_geN C 72 dX0_firstBest_38 (by decide) (by omega) (by omega) (fun cq3 => ?_) (fun cq3 => ?_)
        · refine g_bipush C ((-9)) dX0_firstBest_72 (by decide) ?_
          exact g_iret C X dX0_firstBest_74 (⟨by rw [show m - k = 0 by omega, fbL] at ha; rw [← ha], rfl⟩)
        · refine g_iload_n C dX0_firstBest_41 rfl 3 rfl ?_
          refine g_iload C dX0_firstBest_42 5 rfl ?_
          refine g_ishr C dX0_firstBest_44 ?_
          refine g_iconst C (nI 1) dX0_firstBest_45 (by decide) ?_
          refine g_iand C dX0_firstBest_46 ?_
          refine g_if_ne C 66 dX0_firstBest_47 (by decide) (fun cq4 => ?_) (fun cq4 => ?_)
          · refine g_iincN C (lv' := [(5, .int (nI (k + 1))), (0, .ref g0), (1, .ref t0), (2, .int (nI p)), (3, .int (nI g)), (4, .int yq1)]) dX0_firstBest_66 5 rfl (by decide) rfl ?_
            refine g_goto C 32 dX0_firstBest_69 (by decide) ?_
            refine g_sub (lv' := [(0, .ref g0), (1, .ref t0), (2, .int (nI p)), (3, .int (nI g)), (4, .int yq1), (5, .int (nI (k + 1)))]) [1, 2, 3, 4, 5, 0] rfl ?_
            exact ihL32 (k + 1)  (by omega) (by omega) (by rw [show m - k = (m - (k + 1)) + 1 by omega, fbL, ← eyq1] at ha; first | (rw [if_neg cq4, eyq1] at ha; exact ha) | (rw [if_pos cq3, if_neg cq4, eyq1] at ha; exact ha))
          · refine g_aload_n C dX0_firstBest_50 rfl 0 rfl ?_
            refine g_iload_n C dX0_firstBest_51 rfl 2 rfl ?_
            refine g_iload_n C dX0_firstBest_52 rfl 3 rfl ?_
            refine g_iload C dX0_firstBest_53 5 rfl ?_
            refine g_callV C (rest := []) (n := 3) (kX0_mostWith_Q l E g0 g1 g2 ga mo p g k (by omega) (by omega) (by omega)) gX0_firstBest_X0_mostWith rfl ⟨rfl, rfl⟩ (by decide) (Nat.le_of_ble_eq_true rfl) rfl (by decide +kernel) rfl dX0_firstBest_55 0 rfl rfl [0, 1, 2] [3] rfl rfl ?_
            refine g_is1 (ws2 := [(g0, oB 0 [.ref g1, .ref g2]), (g1, iA E 36 ga), (g2, iA E 448 mo), (t0, oB 10 [.ref t1, .ref t2, .ref t3, .int (nI n), .int (nI m)])]) (st2 := [.int (mW ga mo p g k)]) [1, 2, 3, 0] rfl rfl rfl ?_
            refine g_iload C dX0_firstBest_58 4 rfl ?_
            refine g_icmp_ne C 66 dX0_firstBest_60 (by decide) (fun cq5 => ?_) (fun cq5 => ?_)
            · refine g_iincN C (lv' := [(5, .int (nI (k + 1))), (0, .ref g0), (1, .ref t0), (2, .int (nI p)), (3, .int (nI g)), (4, .int yq1)]) dX0_firstBest_66 5 rfl (by decide) rfl ?_
              refine g_goto C 32 dX0_firstBest_69 (by decide) ?_
              refine g_sub (lv' := [(0, .ref g0), (1, .ref t0), (2, .int (nI p)), (3, .int (nI g)), (4, .int yq1), (5, .int (nI (k + 1)))]) [1, 2, 3, 4, 5, 0] rfl ?_
              exact ihL32 (k + 1)  (by omega) (by omega) (by rw [show m - k = (m - (k + 1)) + 1 by omega, fbL, ← eyq1] at ha; first | (rw [if_neg cq5, eyq1] at ha; exact ha) | (rw [if_pos cq4, if_neg cq5, eyq1] at ha; exact ha))
            · refine g_iload C dX0_firstBest_63 5 rfl ?_
              exact g_iret C X dX0_firstBest_65 (⟨by rw [show m - k = (m - (k + 1)) + 1 by omega, fbL, ← eyq1, if_pos cq4, if_pos cq5] at ha; rw [← ha], rfl⟩)
    refine g_sub (lv' := [(0, .ref g0), (1, .ref t0), (2, .int (nI p)), (3, .int (nI g)), (4, .int yq1), (5, .int (nI 0))]) [2, 3, 4, 5, 1, 0] rfl ?_
    exact L32 (m + 1 - 0) 0  (by omega) (by omega) (he.symm)
  · have he : mo ((p + 1) * 64 + g) = mo (p * 64 + g) := by rw [← eyq1]; exact cq2
    refine g_bipush C ((-9)) dX0_firstBest_26 (by decide) ?_
    exact g_iret C X dX0_firstBest_28 (⟨congrArg (fun z => some (Value.int z)) (if_pos he).symm, rfl⟩)

set_option maxHeartbeats 4000000 in
set_option maxRecDepth 100000 in
theorem kX0_pillowOf (l : Launch) (E : EX) (g0 g1 g2 : Nat) (ga mo : Nat → Int32) (t0 t1 t2 t3 n m : Nat) (p : Nat) (hm : m ≤ 6) (hp : p < 6) : M l E yX0_pillowOf wsX0_pillowOf { frames := 2, cells := 0, slots := 0, locals := 49 } 0 0 [.ref g0, .ref t0, .int (nI p)] [(g0, oB 0 [.ref g1, .ref g2]), (g1, iA E 36 ga), (g2, iA E 448 mo), (t0, oB 10 [.ref t1, .ref t2, .ref t3, .int (nI n), .int (nI m)])] (is1 (some (.int ((pofS ga mo m (p + 1)).2))) [(g0, oB 0 [.ref g1, .ref g2]), (g1, iA E 36 ga), (g2, iA E 448 mo), (t0, oB 10 [.ref t1, .ref t2, .ref t3, .int (nI n), .int (nI m)])]) := by
  refine M.ofG (cc := cX0_pillowOf) (maxL := 6) (ret := (some .int)) (lv := [(0, .ref g0), (1, .ref t0), (2, .int (nI p))]) (own := RX0) (by decide) rfl rfl (Nat.le_of_ble_eq_true rfl) rfl ?_
  intro K C X _
  refine g_iconst C (nI 0) dX0_pillowOf_0 (by decide) ?_
  refine g_istore_n C (lv' := [(3, .int (nI 0)), (0, .ref g0), (1, .ref t0), (2, .int (nI p))]) dX0_pillowOf_1 rfl (by decide) rfl ?_
  refine g_bipush C ((-9)) dX0_pillowOf_2 (by decide) ?_
  refine g_istore C (lv' := [(4, .int (-9)), (3, .int (nI 0)), (0, .ref g0), (1, .ref t0), (2, .int (nI p))]) dX0_pillowOf_4 (by decide) rfl ?_
  refine g_iconst C (nI 0) dX0_pillowOf_6 (by decide) ?_
  refine g_istore C (lv' := [(5, .int (nI 0)), (4, .int (-9)), (3, .int (nI 0)), (0, .ref g0), (1, .ref t0), (2, .int (nI p))]) dX0_pillowOf_7 (by decide) rfl ?_
  have L9 : ∀ (zz k : Nat) (g : Nat) (a : Int32), k + zz = (p + 1) + 1 → k ≤ p + 1 → (g = (pofS ga mo m k).1) → (a = (pofS ga mo m k).2) → (g < 64) → G K 0 0 9 [(0, .ref g0), (1, .ref t0), (2, .int (nI p)), (3, .int (nI g)), (4, .int a), (5, .int (nI k))] [] [(g0, oB 0 [.ref g1, .ref g2]), (g1, iA E 36 ga), (g2, iA E 448 mo), (t0, oB 10 [.ref t1, .ref t2, .ref t3, .int (nI n), .int (nI m)])] := by
    intro zz
    induction zz with
    | zero => intro k g a hL9 gL9; exfalso; omega
    | succ zz ihL9 =>
      intro k g a hL9 gL9 hg ha h64
      refine g_iload C dX0_pillowOf_9 5 rfl ?_
      refine g_iload_n C dX0_pillowOf_11 rfl 2 rfl ?_
      refine g_icmp_gtN C 43 dX0_pillowOf_12 (by decide) (by omega) (by omega) (fun cq1 => ?_) (fun cq1 => ?_)
      · have hk : k = p + 1 := by omega
        refine g_iload C dX0_pillowOf_43 4 rfl ?_
        exact g_iret C X dX0_pillowOf_45 (⟨by rw [ha, hk], rfl⟩)
      · refine g_aload_n C dX0_pillowOf_15 rfl 0 rfl ?_
        refine g_aload_n C dX0_pillowOf_16 rfl 1 rfl ?_
        refine g_iload C dX0_pillowOf_17 5 rfl ?_
        refine g_iload_n C dX0_pillowOf_19 rfl 3 rfl ?_
        refine g_callV C (rest := []) (n := 3) (kX0_firstBest l E g0 g1 g2 ga mo t0 t1 t2 t3 n m k g (by omega) (by omega) (by omega)) gX0_pillowOf_X0_firstBest rfl ⟨rfl, rfl⟩ (by decide) (Nat.le_of_ble_eq_true rfl) rfl (by decide +kernel) rfl dX0_pillowOf_20 0 rfl rfl [0, 1, 2, 3] [] rfl rfl ?_
        refine g_is1 (ws2 := [(g0, oB 0 [.ref g1, .ref g2]), (g1, iA E 36 ga), (g2, iA E 448 mo), (t0, oB 10 [.ref t1, .ref t2, .ref t3, .int (nI n), .int (nI m)])]) (st2 := [.int (fsB ga mo m k g)]) [0, 1, 2, 3] rfl rfl rfl ?_
        refine g_nm (fun yq2 eyq2 => ?_)
        refine g_istore C (lv' := [(4, .int yq2), (0, .ref g0), (1, .ref t0), (2, .int (nI p)), (3, .int (nI g)), (5, .int (nI k))]) dX0_pillowOf_23 (by decide) rfl ?_
        refine g_iload C dX0_pillowOf_25 0 rfl ?_
        refine g_if_lt C 37 dX0_pillowOf_27 (by decide) (fun cq3 => ?_) (fun cq3 => ?_)
        · refine g_iincN C (lv' := [(5, .int (nI (k + 1))), (4, .int yq2), (0, .ref g0), (1, .ref t0), (2, .int (nI p)), (3, .int (nI g))]) dX0_pillowOf_37 5 rfl (by decide) rfl ?_
          refine g_goto C 9 dX0_pillowOf_40 (by decide) ?_
          refine g_sub (lv' := [(0, .ref g0), (1, .ref t0), (2, .int (nI p)), (3, .int (nI g)), (4, .int yq2), (5, .int (nI (k + 1)))]) [2, 3, 4, 5, 1, 0] rfl ?_
          exact ihL9 (k + 1) g yq2 (by omega) (by omega) (by rw [pofS, ← hg, ← eyq2]; first | (rw [if_pos cq3]; done) | (rw [if_neg cq3, nI_clamp (by omega)]; done)) (by rw [pofS, ← hg]; exact eyq2) (by first | assumption | exact or64 h64 (by omega))
        · obtain ⟨j, hj, rfl⟩ : ∃ j, j < m ∧ yq2 = nI j := by rcases fsB_in ga mo m k g with h | h; (exact absurd (eyq2 ▸ h) cq3); (exact eyq2 ▸ h)
          refine g_iload_n C dX0_pillowOf_30 rfl 4 rfl ?_
          refine g_iconst C (nI 1) dX0_pillowOf_31 (by decide) ?_
          refine g_iload C dX0_pillowOf_32 0 rfl ?_
          refine g_ishl1 C dX0_pillowOf_34 (by omega) ?_
          refine g_iorN C dX0_pillowOf_35 ?_
          refine g_istore_n C (lv' := [(3, .int (nI (g ||| (2 ^ j)))), (4, .int (nI j)), (0, .ref g0), (1, .ref t0), (2, .int (nI p)), (5, .int (nI k))]) dX0_pillowOf_36 rfl (by decide) rfl ?_
          refine g_iincN C (lv' := [(5, .int (nI (k + 1))), (3, .int (nI (g ||| (2 ^ j)))), (4, .int (nI j)), (0, .ref g0), (1, .ref t0), (2, .int (nI p))]) dX0_pillowOf_37 5 rfl (by decide) rfl ?_
          refine g_goto C 9 dX0_pillowOf_40 (by decide) ?_
          refine g_sub (lv' := [(0, .ref g0), (1, .ref t0), (2, .int (nI p)), (3, .int (nI (g ||| (2 ^ j)))), (4, .int (nI j)), (5, .int (nI (k + 1)))]) [3, 4, 5, 1, 2, 0] rfl ?_
          exact ihL9 (k + 1) (g ||| (2 ^ j)) (nI j) (by omega) (by omega) (by rw [pofS, ← hg, ← eyq2]; first | (rw [if_pos cq3]; done) | (rw [if_neg cq3, nI_clamp (by omega)]; done)) (by rw [pofS, ← hg]; exact eyq2) (by first | assumption | exact or64 h64 (by omega))
  refine g_sub (lv' := [(0, .ref g0), (1, .ref t0), (2, .int (nI p)), (3, .int (nI 0)), (4, .int (-9)), (5, .int (nI 0))]) [3, 4, 5, 2, 1, 0] rfl ?_
  exact L9 ((p + 1) + 1 - 0) 0 0 (-9) (by omega) (by omega) (by first | rfl | omega | (simp []; done)) (by first | rfl | omega | (simp []; done)) (by first | rfl | omega | (simp []; done))

set_option maxHeartbeats 4000000 in
set_option maxRecDepth 100000 in
theorem kX0_weigh (l : Launch) (E : EX) (g0 g1 g2 : Nat) (ga mo : Nat → Int32) (t0 t1 t2 t3 n m : Nat) (kn : Nat → Int32) (h0 h1 : Nat) (f : Nat → Int32) (hn : n ≤ 6) (hm : m ≤ 6) : M l E yX0_weigh wsX0_weigh { frames := 2, cells := 0, slots := 0, locals := 49 } 0 0 [.ref g0, .ref t0, .ref h0] [(g0, oB 0 [.ref g1, .ref g2]), (g1, iA E 36 ga), (g2, iA E 448 mo), (t0, oB 10 [.ref t1, .ref t2, .ref t3, .int (nI n), .int (nI m)]), (t1, iA E 6 kn), (h0, oB 8 [.ref h1]), (h1, iA E 50 f)] (is1 none [(g0, oB 0 [.ref g1, .ref g2]), (g1, iA E 36 ((wghS kn f m n ga mo n).1)), (g2, iA E 448 ((wghS kn f m n ga mo n).2)), (t0, oB 10 [.ref t1, .ref t2, .ref t3, .int (nI n), .int (nI m)]), (t1, iA E 6 kn), (h0, oB 8 [.ref h1]), (h1, iA E 50 f)]) := by
  refine M.ofG (cc := cX0_weigh) (maxL := 5) (ret := none) (lv := [(0, .ref g0), (1, .ref t0), (2, .ref h0)]) (own := RX0) (by decide) rfl rfl (Nat.le_of_ble_eq_true rfl) rfl ?_
  intro K C X _
  have i0 : ∀ w ∈ wsX00, w ∈ wsX0_weigh := by decide +kernel
  have i10 : ∀ w ∈ wsX100, w ∈ wsX0_weigh := by decide +kernel
  refine g_aload_n C dX0_weigh_0 rfl 0 rfl ?_
  refine g_get C i0 0 rfl rfl 1 (by decide) (List.mem_of_getElem? (i := 1) rfl) rfl rfl dX0_weigh_1 ?_
  refine g_iconst C (nI 0) dX0_weigh_4 (by decide) ?_
  refine g_callS C (rest := []) (n := 2) (kJ7_fill_53178 l E g2 448 mo (nI 0) (by omega)) gX0_weigh_J7_fill_53178 rfl ⟨rfl, rfl⟩ (by decide) (Nat.le_of_ble_eq_true rfl) rfl (by decide +kernel) rfl dX0_weigh_5 [2] [0, 1, 3, 4, 5, 6] rfl rfl ?_
  refine g_is1 (ws2 := [(g0, oB 0 [.ref g1, .ref g2]), (g1, iA E 36 ga), (g2, iA E 448 (filA mo (nI 0) 448)), (t0, oB 10 [.ref t1, .ref t2, .ref t3, .int (nI n), .int (nI m)]), (t1, iA E 6 kn), (h0, oB 8 [.ref h1]), (h1, iA E 50 f)]) (st2 := []) [0, 1, 6, 2, 3, 4, 5] rfl rfl rfl ?_
  refine g_aload_n C dX0_weigh_8 rfl 1 rfl ?_
  refine g_get C i10 3 rfl rfl 3 (by decide) (List.mem_of_getElem? (i := 2) rfl) rfl rfl dX0_weigh_9 ?_
  refine g_iconst C (nI 1) dX0_weigh_12 (by decide) ?_
  refine g_isub C dX0_weigh_13 ?_
  refine g_istore_n C (lv' := [(3, .int ((nI n) - (nI 1))), (0, .ref g0), (1, .ref t0), (2, .ref h0)]) dX0_weigh_14 rfl (by decide) rfl ?_
  have L15 : ∀ (zz : Nat) (k : Nat) (u : Nat → Int32) (v : Nat → Int32), k < zz → (k ≤ n) → (u = (wghS kn f m n ga mo (n - k)).1) → (v = (wghS kn f m n ga mo (n - k)).2) → G K 0 0 15 [(0, .ref g0), (1, .ref t0), (2, .ref h0), (3, .int (nI k - nI 1))] [] [(g0, oB 0 [.ref g1, .ref g2]), (g1, iA E 36 u), (g2, iA E 448 v), (t0, oB 10 [.ref t1, .ref t2, .ref t3, .int (nI n), .int (nI m)]), (t1, iA E 6 kn), (h0, oB 8 [.ref h1]), (h1, iA E 50 f)] := by
    intro zz
    induction zz with
    | zero => intro k u v hL15; exact absurd hL15 (Nat.not_lt_zero _)
    | succ zz ihL15 =>
      intro k u v hL15 hk hu hv
      rcases k with _ | j
      · refine g_iload_n C dX0_weigh_15 rfl 3 rfl ?_
        refine g_if_lt C 101 dX0_weigh_16 (by decide) (fun cq1 => ?_) (fun cq1 => ?_)
        · exact g_vret C X dX0_weigh_101 (⟨rfl, by rw [hu, hv, Nat.sub_zero]⟩)
        · exact absurd (by decide) cq1
      · rw [nI_prd j]
        refine g_iload_n C dX0_weigh_15 rfl 3 rfl ?_
        refine g_if_ltN C 101 dX0_weigh_16 (by decide) (by omega) ?_
        refine g_iconst C (nI 0) dX0_weigh_19 (by decide) ?_
        refine g_istore C (lv' := [(4, .int (nI 0)), (0, .ref g0), (1, .ref t0), (2, .ref h0), (3, .int (nI j))]) dX0_weigh_20 (by decide) rfl ?_
        have L22 : ∀ (zz q : Nat) (u2 : Nat → Int32), q + zz = 6 + 1 → q ≤ 6 → (u2 = gaRow u kn f j q) → G K 0 0 22 [(0, .ref g0), (1, .ref t0), (2, .ref h0), (3, .int (nI j)), (4, .int (nI q))] [] [(g0, oB 0 [.ref g1, .ref g2]), (g1, iA E 36 u2), (g2, iA E 448 v), (t0, oB 10 [.ref t1, .ref t2, .ref t3, .int (nI n), .int (nI m)]), (t1, iA E 6 kn), (h0, oB 8 [.ref h1]), (h1, iA E 50 f)] := by
          intro zz
          induction zz with
          | zero => intro q u2 hL22 gL22; exfalso; omega
          | succ zz ihL22 =>
            intro q u2 hL22 gL22 hu2
            refine g_iload C dX0_weigh_22 4 rfl ?_
            refine g_bipush C (nI 6) dX0_weigh_24 (by decide) ?_
            refine g_icmp_geN C 59 dX0_weigh_26 (by decide) (by omega) (by omega) (fun cq3 => ?_) (fun cq3 => ?_)
            · have hk2 : q = 6 := by omega
              refine g_iconst C (nI 0) dX0_weigh_59 (by decide) ?_
              refine g_istore C (lv' := [(4, .int (nI 0)), (0, .ref g0), (1, .ref t0), (2, .ref h0), (3, .int (nI j))]) dX0_weigh_60 (by decide) rfl ?_
              have L62 : ∀ (zz g : Nat) (v2 : Nat → Int32), g + zz = 64 + 1 → g ≤ 64 → (v2 = moRow u2 v j m g) → G K 0 0 62 [(0, .ref g0), (1, .ref t0), (2, .ref h0), (3, .int (nI j)), (4, .int (nI g))] [] [(g0, oB 0 [.ref g1, .ref g2]), (g1, iA E 36 u2), (g2, iA E 448 v2), (t0, oB 10 [.ref t1, .ref t2, .ref t3, .int (nI n), .int (nI m)]), (t1, iA E 6 kn), (h0, oB 8 [.ref h1]), (h1, iA E 50 f)] := by
                intro zz
                induction zz with
                | zero => intro g v2 hL62 gL62; exfalso; omega
                | succ zz ihL62 =>
                  intro g v2 hL62 gL62 hv2
                  refine g_iload C dX0_weigh_62 4 rfl ?_
                  refine g_bipush C (nI 64) dX0_weigh_64 (by decide) ?_
                  refine g_icmp_geN C 95 dX0_weigh_66 (by decide) (by omega) (by omega) (fun cq4 => ?_) (fun cq4 => ?_)
                  · have hk3 : g = 64 := by omega
                    refine g_iincD C (lv' := [(3, .int ((nI j) - nI 1)), (0, .ref g0), (1, .ref t0), (2, .ref h0), (4, .int (nI g))]) dX0_weigh_95 3 rfl (by decide) rfl ?_
                    refine g_goto C 15 dX0_weigh_98 (by decide) ?_
                    refine g_sub (lv' := [(0, .ref g0), (1, .ref t0), (2, .ref h0), (3, .int ((nI j) - nI 1))]) [1, 2, 3, 0] rfl ?_
                    exact ihL15 j u2 v2 (by omega) (by omega) (by rw [show n - j = (n - (j + 1)) + 1 by omega, wghS, ← hu, show n - (n - (j + 1) + 1) = j by omega, hu2, hk2]) (by rw [show n - j = (n - (j + 1)) + 1 by omega, wghS, ← hu, ← hv, show n - (n - (j + 1) + 1) = j by omega, hv2, hk3, hu2, hk2])
                  · refine g_aload_n C dX0_weigh_69 rfl 0 rfl ?_
                    refine g_get C i0 0 rfl rfl 1 (by decide) (List.mem_of_getElem? (i := 1) rfl) rfl rfl dX0_weigh_70 ?_
                    refine g_iload_n C dX0_weigh_73 rfl 3 rfl ?_
                    refine g_bipush C (nI 64) dX0_weigh_74 (by decide) ?_
                    refine g_imulN C dX0_weigh_76 ?_
                    refine g_iload C dX0_weigh_77 4 rfl ?_
                    refine g_iaddN C dX0_weigh_79 ?_
                    refine g_aload_n C dX0_weigh_80 rfl 0 rfl ?_
                    refine g_aload_n C dX0_weigh_81 rfl 1 rfl ?_
                    refine g_iload_n C dX0_weigh_82 rfl 3 rfl ?_
                    refine g_iload C dX0_weigh_83 4 rfl ?_
                    refine g_callV C (rest := [.int (nI (j * 64 + g)), .ref g2]) (n := 3) (kX0_bestOf l E g0 g1 g2 u2 v2 t0 t1 t2 t3 n m j g (by omega) (by omega) (by omega)) gX0_weigh_X0_bestOf rfl ⟨rfl, rfl⟩ (by decide) (Nat.le_of_ble_eq_true rfl) rfl (by decide +kernel) rfl dX0_weigh_85 0 rfl rfl [0, 1, 2, 3] [4, 5, 6] rfl rfl ?_
                    refine g_is1 (ws2 := [(g0, oB 0 [.ref g1, .ref g2]), (g1, iA E 36 u2), (g2, iA E 448 v2), (t0, oB 10 [.ref t1, .ref t2, .ref t3, .int (nI n), .int (nI m)]), (t1, iA E 6 kn), (h0, oB 8 [.ref h1]), (h1, iA E 50 f)]) (st2 := [.int (bstF u2 v2 j g m), .int (nI (j * 64 + g)), .ref g2]) [3, 4, 5, 6, 0, 1, 2] rfl rfl rfl ?_
                    refine g_iast C (ws' := fun fq5 => [(g0, oB 0 [.ref g1, .ref g2]), (g1, iA E 36 u2), (g2, iA E 448 fq5), (t0, oB 10 [.ref t1, .ref t2, .ref t3, .int (nI n), .int (nI m)]), (t1, iA E 6 kn), (h0, oB 8 [.ref h1]), (h1, iA E 50 f)]) 2 rfl (by omega) (by decide) dX0_weigh_88 (fun _ _ => rfl) (fun fq5 efq5 => ?_)
                    refine g_iincN C (lv' := [(4, .int (nI (g + 1))), (0, .ref g0), (1, .ref t0), (2, .ref h0), (3, .int (nI j))]) dX0_weigh_89 4 rfl (by decide) rfl ?_
                    refine g_goto C 62 dX0_weigh_92 (by decide) ?_
                    refine g_sub (lv' := [(0, .ref g0), (1, .ref t0), (2, .ref h0), (3, .int (nI j)), (4, .int (nI (g + 1)))]) [1, 2, 3, 4, 0] rfl ?_
                    exact ihL62 (g + 1) fq5 (by omega) (by omega) (by rw [moRow, ← hv2, efq5])
              refine g_sub (lv' := [(0, .ref g0), (1, .ref t0), (2, .ref h0), (3, .int (nI j)), (4, .int (nI 0))]) [1, 2, 3, 4, 0] rfl ?_
              exact L62 (64 + 1 - 0) 0 v (by omega) (by omega) (by first | rfl | omega | (simp []; done))
            · refine g_aload_n C dX0_weigh_29 rfl 0 rfl ?_
              refine g_get C i0 0 rfl rfl 0 (by decide) (List.mem_of_getElem? (i := 3) rfl) rfl rfl dX0_weigh_30 ?_
              refine g_iload_n C dX0_weigh_33 rfl 3 rfl ?_
              refine g_bipush C (nI 6) dX0_weigh_34 (by decide) ?_
              refine g_imulN C dX0_weigh_36 ?_
              refine g_iload C dX0_weigh_37 4 rfl ?_
              refine g_iaddN C dX0_weigh_39 ?_
              refine g_aload_n C dX0_weigh_40 rfl 2 rfl ?_
              refine g_iload C dX0_weigh_41 4 rfl ?_
              refine g_aload_n C dX0_weigh_43 rfl 1 rfl ?_
              refine g_get C i10 3 rfl rfl 0 (by decide) (List.mem_of_getElem? (i := 4) rfl) rfl rfl dX0_weigh_44 ?_
              refine g_iload_n C dX0_weigh_47 rfl 3 rfl ?_
              refine g_iald C 4 rfl (by omega) (by decide) dX0_weigh_48 ?_
              refine g_callV C (rest := [.int (nI (j * 6 + q)), .ref g1]) (n := 2) (kX8_timesOn l E h0 h1 f q (kn j) (by omega)) gX0_weigh_X8_timesOn rfl ⟨rfl, rfl⟩ (by decide) (Nat.le_of_ble_eq_true rfl) rfl (by decide +kernel) rfl dX0_weigh_49 0 rfl rfl [5, 6] [0, 1, 2, 3, 4] rfl rfl ?_
              refine g_is1 (ws2 := [(g0, oB 0 [.ref g1, .ref g2]), (g1, iA E 36 u2), (g2, iA E 448 v), (t0, oB 10 [.ref t1, .ref t2, .ref t3, .int (nI n), .int (nI m)]), (t1, iA E 6 kn), (h0, oB 8 [.ref h1]), (h1, iA E 50 f)]) (st2 := [.int (tiOn f q (kn j) 7), .int (nI (j * 6 + q)), .ref g1]) [0, 1, 2, 3, 4, 5, 6] rfl rfl rfl ?_
              refine g_iast C (ws' := fun fq6 => [(g0, oB 0 [.ref g1, .ref g2]), (g1, iA E 36 fq6), (g2, iA E 448 v), (t0, oB 10 [.ref t1, .ref t2, .ref t3, .int (nI n), .int (nI m)]), (t1, iA E 6 kn), (h0, oB 8 [.ref h1]), (h1, iA E 50 f)]) 1 rfl (by omega) (by decide) dX0_weigh_52 (fun _ _ => rfl) (fun fq6 efq6 => ?_)
              refine g_iincN C (lv' := [(4, .int (nI (q + 1))), (0, .ref g0), (1, .ref t0), (2, .ref h0), (3, .int (nI j))]) dX0_weigh_53 4 rfl (by decide) rfl ?_
              refine g_goto C 22 dX0_weigh_56 (by decide) ?_
              refine g_sub (lv' := [(0, .ref g0), (1, .ref t0), (2, .ref h0), (3, .int (nI j)), (4, .int (nI (q + 1)))]) [1, 2, 3, 4, 0] rfl ?_
              exact ihL22 (q + 1) fq6 (by omega) (by omega) (by rw [gaRow, ← hu2, efq6])
        refine g_sub (lv' := [(0, .ref g0), (1, .ref t0), (2, .ref h0), (3, .int (nI j)), (4, .int (nI 0))]) [1, 2, 3, 4, 0] rfl ?_
        exact L22 (6 + 1 - 0) 0 u (by omega) (by omega) (by first | rfl | omega | (simp []; done))
  refine g_sub (lv' := [(0, .ref g0), (1, .ref t0), (2, .ref h0), (3, .int ((nI n) - (nI 1)))]) [1, 2, 3, 0] rfl ?_
  exact L15 (n + 1) n ga (filA mo (nI 0) 448) (Nat.lt_succ_self _) (Nat.le_refl n) (by rw [Nat.sub_self]; rfl) (by rw [Nat.sub_self]; rfl)
