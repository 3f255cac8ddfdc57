/-! Scene: the row of 50 numbers (42 times heard, 6 beds, the examined, the night) -/
abbrev tb (x : Int32) (k : Nat) : Int32 := (x >>> (nI k &&& 31)) &&& nI 1
def thOn (f : Nat → Int32) (q : Nat) : Nat → Int32
  | 0 => nI 0
  | k + 1 => if f (q * 7 + k) ≤ 0 then thOn f q k else thOn f q k ||| nI (2 ^ k)
def thSet (f : Nat → Int32) (x : Int32) : Nat → Int32
  | 0 => nI 0
  | k + 1 => if tb x k = 0 then thSet f x k else thSet f x k ||| thOn f k 7
def tiOn (f : Nat → Int32) (q : Nat) (x : Int32) : Nat → Int32
  | 0 => nI 0
  | k + 1 => if tb x k = 0 then tiOn f q x k else tiOn f q x k + f (q * 7 + k)
def tiSet (f : Nat → Int32) (x : Int32) : Nat → Int32
  | 0 => nI 0
  | k + 1 => tiSet f x k + tiOn f k x 7
def slOn (f : Nat → Int32) (q : Nat) : Nat → Int32
  | 0 => nI 0
  | k + 1 => if f (42 + k) = nI q then slOn f q k ||| nI (2 ^ k) else slOn f q k
def filA (g : Nat → Int32) (x : Int32) (k : Nat) : Nat → Int32 := fun j => if j < k then x else g j
theorem filA_s (g : Nat → Int32) (x : Int32) (k : Nat) : upd (filA g x k) k x = filA g x (k + 1) := by
  funext j
  unfold upd filA
  by_cases h : j = k
  · rw [if_pos h, if_pos (by omega)]
  · rw [if_neg h]
    by_cases h2 : j < k
    · rw [if_pos h2, if_pos (by omega)]
    · rw [if_neg h2, if_neg (by omega)]
theorem filA_0 (g : Nat → Int32) (x : Int32) : filA g x 0 = g := by
  funext j
  unfold filA
  rw [if_neg (Nat.not_lt_zero j)]

set_option maxHeartbeats 4000000 in
set_option maxRecDepth 100000 in
theorem kJ7_fill_53178 (l : Launch) (E : EX) (h0 n : Nat) (g : Nat → Int32) (x : Int32) (hn : n < 2147483648) : M l E yJ7_fill_53178 wsJ7_fill_53178 { frames := 0, cells := 0, slots := 0, locals := 0 } 0 0 [.ref h0, .int x] [(h0, iA E n g)] (is1 none [(h0, iA E n (filA g x n))]) := by
  refine M.ofG (cc := cJ7_fill_53178) (maxL := 4) (ret := none) (lv := [(0, .ref h0), (1, .int x)]) (own := RJ7) (by decide) rfl rfl (Nat.le_of_ble_eq_true rfl) rfl ?_
  intro K C X _
  refine g_iconst C (nI 0) dJ7_fill_53178_0 (by decide) ?_
  refine g_istore_n C (lv' := [(2, .int (nI 0)), (0, .ref h0), (1, .int x)]) dJ7_fill_53178_1 rfl (by decide) rfl ?_
  refine g_aload_n C dJ7_fill_53178_2 rfl 1 rfl ?_
  refine g_alen C 0 rfl dJ7_fill_53178_3 ?_
  refine g_istore_n C (lv' := [(3, .int (nI n)), (2, .int (nI 0)), (0, .ref h0), (1, .int x)]) dJ7_fill_53178_4 rfl (by decide) rfl ?_
  have L5 : ∀ (zz k : Nat) (u : Nat → Int32), k + zz = n + 1 → k ≤ n → (u = filA g x k) → G K 0 0 5 [(0, .ref h0), (1, .int x), (2, .int (nI k)), (3, .int (nI n))] [] [(h0, iA E n u)] := by
    intro zz
    induction zz with
    | zero => intro k u hL5 gL5; exfalso; omega
    | succ zz ihL5 =>
      intro k u hL5 gL5 hu
      refine g_iload_n C dJ7_fill_53178_5 rfl 2 rfl ?_
      refine g_iload_n C dJ7_fill_53178_6 rfl 3 rfl ?_
      refine g_icmp_geN C 20 dJ7_fill_53178_7 (by decide) (by omega) (by omega) (fun cq1 => ?_) (fun cq1 => ?_)
      · have hk : k = n := by omega
        exact g_vret C X dJ7_fill_53178_20 (⟨rfl, by rw [hu, hk]⟩)
      · refine g_aload_n C dJ7_fill_53178_10 rfl 0 rfl ?_
        refine g_iload_n C dJ7_fill_53178_11 rfl 2 rfl ?_
        refine g_iload_n C dJ7_fill_53178_12 rfl 1 rfl ?_
        refine g_iast C (ws' := fun fq2 => [(h0, iA E n fq2)]) 0 rfl (by omega) (by omega) dJ7_fill_53178_13 (fun _ _ => rfl) (fun fq2 efq2 => ?_)
        refine g_iincN C (lv' := [(2, .int (nI (k + 1))), (0, .ref h0), (1, .int x), (3, .int (nI n))]) dJ7_fill_53178_14 2 rfl (by decide) rfl ?_
        refine g_goto C 5 dJ7_fill_53178_17 (by decide) ?_
        refine g_sub (lv' := [(0, .ref h0), (1, .int x), (2, .int (nI (k + 1))), (3, .int (nI n))]) [1, 2, 0, 3] rfl ?_
        exact ihL5 (k + 1) fq2 (by omega) (by omega) (by simp [hu, cq1, efq2, filA_s])
  refine g_sub (lv' := [(0, .ref h0), (1, .int x), (2, .int (nI 0)), (3, .int (nI n))]) [2, 3, 1, 0] rfl ?_
  exact L5 (n + 1 - 0) 0 g (by omega) (by omega) ((filA_0 g x).symm)

set_option maxHeartbeats 4000000 in
set_option maxRecDepth 100000 in
theorem kX8_times (l : Launch) (E : EX) (h0 h1 : Nat) (f : Nat → Int32) (q t : Nat) (hq : q < 6) (ht : t < 7) : M l E yX8_times wsX8_times { frames := 0, cells := 0, slots := 0, locals := 0 } 0 0 [.ref h0, .int (nI q), .int (nI t)] [(h0, oB 8 [.ref h1]), (h1, iA E 50 f)] (is1 (some (.int (f (q * 7 + t)))) [(h0, oB 8 [.ref h1]), (h1, iA E 50 f)]) := by
  refine M.ofG (cc := cX8_times) (maxL := 3) (ret := (some .int)) (lv := [(0, .ref h0), (1, .int (nI q)), (2, .int (nI t))]) (own := RX8) (by decide) rfl rfl (Nat.le_of_ble_eq_true rfl) rfl ?_
  intro K C X _
  have i8 : ∀ w ∈ wsX80, w ∈ wsX8_times := by decide +kernel
  refine g_aload_n C dX8_times_0 rfl 0 rfl ?_
  refine g_get C i8 0 rfl rfl 0 (by decide) (List.mem_of_getElem? (i := 1) rfl) rfl rfl dX8_times_1 ?_
  refine g_iload_n C dX8_times_4 rfl 1 rfl ?_
  refine g_bipush C (nI 7) dX8_times_5 (by decide) ?_
  refine g_imulN C dX8_times_7 ?_
  refine g_iload_n C dX8_times_8 rfl 2 rfl ?_
  refine g_iaddN C dX8_times_9 ?_
  refine g_iald C 1 rfl (by omega) (by decide) dX8_times_10 ?_
  exact g_iret C X dX8_times_11 (⟨rfl, rfl⟩)

set_option maxHeartbeats 4000000 in
set_option maxRecDepth 100000 in
theorem kX8_setTimes (l : Launch) (E : EX) (h0 h1 : Nat) (f : Nat → Int32) (q t : Nat) (x : Int32) (hq : q < 6) (ht : t < 7) : M l E yX8_setTimes wsX8_setTimes { frames := 1, cells := 0, slots := 0, locals := 15 } 0 0 [.ref h0, .int (nI q), .int (nI t), .int x] [(h0, oB 8 [.ref h1]), (h1, iA E 50 f)] (is1 none [(h0, oB 8 [.ref h1]), (h1, iA E 50 (upd f (q * 7 + t) (imin x (nI 99))))]) := by
  refine M.ofG (cc := cX8_setTimes) (maxL := 4) (ret := none) (lv := [(0, .ref h0), (1, .int (nI q)), (2, .int (nI t)), (3, .int x)]) (own := RX8) (by decide) rfl rfl (Nat.le_of_ble_eq_true rfl) rfl ?_
  intro K C X _
  have i8 : ∀ w ∈ wsX80, w ∈ wsX8_setTimes := by decide +kernel
  refine g_aload_n C dX8_setTimes_0 rfl 0 rfl ?_
  refine g_get C i8 0 rfl rfl 0 (by decide) (List.mem_of_getElem? (i := 1) rfl) rfl rfl dX8_setTimes_1 ?_
  refine g_iload_n C dX8_setTimes_4 rfl 1 rfl ?_
  refine g_bipush C (nI 7) dX8_setTimes_5 (by decide) ?_
  refine g_imulN C dX8_setTimes_7 ?_
  refine g_iload_n C dX8_setTimes_8 rfl 2 rfl ?_
  refine g_iaddN C dX8_setTimes_9 ?_
  refine g_iload_n C dX8_setTimes_10 rfl 3 rfl ?_
  refine g_bipush C (nI 99) dX8_setTimes_11 (by decide) ?_
  refine g_mmin C (List.mem_of_getElem? (i := 2) rfl) (List.mem_of_getElem? (i := 3) rfl) (List.mem_of_getElem? (i := 4) rfl) (List.mem_of_getElem? (i := 5) rfl) (by decide) (Nat.le_of_ble_eq_true rfl) (by decide) dX8_setTimes_13 ?_
  refine g_iast C (ws' := fun fq1 => [(h0, oB 8 [.ref h1]), (h1, iA E 50 fq1)]) 1 rfl (by omega) (by decide) dX8_setTimes_16 (fun _ _ => rfl) (fun fq1 efq1 => ?_)
  exact g_vret C X dX8_setTimes_17 (⟨rfl, by simp [efq1]⟩)

set_option maxHeartbeats 4000000 in
set_option maxRecDepth 100000 in
theorem kX8_bedOf (l : Launch) (E : EX) (h0 h1 : Nat) (f : Nat → Int32) (p : Nat) (hp : p < 6) : M l E yX8_bedOf wsX8_bedOf { frames := 0, cells := 0, slots := 0, locals := 0 } 0 0 [.ref h0, .int (nI p)] [(h0, oB 8 [.ref h1]), (h1, iA E 50 f)] (is1 (some (.int (f (42 + p)))) [(h0, oB 8 [.ref h1]), (h1, iA E 50 f)]) := by
  refine M.ofG (cc := cX8_bedOf) (maxL := 2) (ret := (some .int)) (lv := [(0, .ref h0), (1, .int (nI p))]) (own := RX8) (by decide) rfl rfl (Nat.le_of_ble_eq_true rfl) rfl ?_
  intro K C X _
  have i8 : ∀ w ∈ wsX80, w ∈ wsX8_bedOf := by decide +kernel
  refine g_aload_n C dX8_bedOf_0 rfl 0 rfl ?_
  refine g_get C i8 0 rfl rfl 0 (by decide) (List.mem_of_getElem? (i := 1) rfl) rfl rfl dX8_bedOf_1 ?_
  refine g_bipush C (nI 42) dX8_bedOf_4 (by decide) ?_
  refine g_iload_n C dX8_bedOf_6 rfl 1 rfl ?_
  refine g_iaddN C dX8_bedOf_7 ?_
  refine g_iald C 1 rfl (by omega) (by decide) dX8_bedOf_8 ?_
  exact g_iret C X dX8_bedOf_9 (⟨rfl, rfl⟩)

set_option maxHeartbeats 4000000 in
set_option maxRecDepth 100000 in
theorem kX8_lay (l : Launch) (E : EX) (h0 h1 : Nat) (f : Nat → Int32) (p : Nat) (x : Int32) (hp : p < 6) : M l E yX8_lay wsX8_lay { frames := 0, cells := 0, slots := 0, locals := 0 } 0 0 [.ref h0, .int (nI p), .int x] [(h0, oB 8 [.ref h1]), (h1, iA E 50 f)] (is1 none [(h0, oB 8 [.ref h1]), (h1, iA E 50 (upd f (42 + p) x))]) := by
  refine M.ofG (cc := cX8_lay) (maxL := 3) (ret := none) (lv := [(0, .ref h0), (1, .int (nI p)), (2, .int x)]) (own := RX8) (by decide) rfl rfl (Nat.le_of_ble_eq_true rfl) rfl ?_
  intro K C X _
  have i8 : ∀ w ∈ wsX80, w ∈ wsX8_lay := by decide +kernel
  refine g_aload_n C dX8_lay_0 rfl 0 rfl ?_
  refine g_get C i8 0 rfl rfl 0 (by decide) (List.mem_of_getElem? (i := 1) rfl) rfl rfl dX8_lay_1 ?_
  refine g_bipush C (nI 42) dX8_lay_4 (by decide) ?_
  refine g_iload_n C dX8_lay_6 rfl 1 rfl ?_
  refine g_iaddN C dX8_lay_7 ?_
  refine g_iload_n C dX8_lay_8 rfl 2 rfl ?_
  refine g_iast C (ws' := fun fq1 => [(h0, oB 8 [.ref h1]), (h1, iA E 50 fq1)]) 1 rfl (by omega) (by decide) dX8_lay_9 (fun _ _ => rfl) (fun fq1 efq1 => ?_)
  exact g_vret C X dX8_lay_10 (⟨rfl, by simp [efq1]⟩)

set_option maxHeartbeats 4000000 in
set_option maxRecDepth 100000 in
theorem kX8_nightNumber (l : Launch) (E : EX) (h0 h1 : Nat) (f : Nat → Int32)  : M l E yX8_nightNumber wsX8_nightNumber { frames := 0, cells := 0, slots := 0, locals := 0 } 0 0 [.ref h0] [(h0, oB 8 [.ref h1]), (h1, iA E 50 f)] (is1 (some (.int (f 49))) [(h0, oB 8 [.ref h1]), (h1, iA E 50 f)]) := by
  refine M.ofG (cc := cX8_nightNumber) (maxL := 1) (ret := (some .int)) (lv := [(0, .ref h0)]) (own := RX8) (by decide) rfl rfl (Nat.le_of_ble_eq_true rfl) rfl ?_
  intro K C X _
  have i8 : ∀ w ∈ wsX80, w ∈ wsX8_nightNumber := by decide +kernel
  refine g_aload_n C dX8_nightNumber_0 rfl 0 rfl ?_
  refine g_get C i8 0 rfl rfl 0 (by decide) (List.mem_of_getElem? (i := 1) rfl) rfl rfl dX8_nightNumber_1 ?_
  refine g_bipush C (nI 49) dX8_nightNumber_4 (by decide) ?_
  refine g_iald C 1 rfl (by omega) (by decide) dX8_nightNumber_6 ?_
  exact g_iret C X dX8_nightNumber_7 (⟨rfl, rfl⟩)

set_option maxHeartbeats 4000000 in
set_option maxRecDepth 100000 in
theorem kX8_isExamined (l : Launch) (E : EX) (h0 h1 : Nat) (f : Nat → Int32) (q : Nat)  : M l E yX8_isExamined wsX8_isExamined { frames := 0, cells := 0, slots := 0, locals := 0 } 0 0 [.ref h0, .int (nI q)] [(h0, oB 8 [.ref h1]), (h1, iA E 50 f)] (is1 (some (.int (bI (¬ tb (f 48) q = 0)))) [(h0, oB 8 [.ref h1]), (h1, iA E 50 f)]) := by
  refine M.ofG (cc := cX8_isExamined) (maxL := 2) (ret := (some .boolean)) (lv := [(0, .ref h0), (1, .int (nI q))]) (own := RX8) (by decide) rfl rfl (Nat.le_of_ble_eq_true rfl) rfl ?_
  intro K C X _
  have i8 : ∀ w ∈ wsX80, w ∈ wsX8_isExamined := by decide +kernel
  refine g_aload_n C dX8_isExamined_0 rfl 0 rfl ?_
  refine g_get C i8 0 rfl rfl 0 (by decide) (List.mem_of_getElem? (i := 1) rfl) rfl rfl dX8_isExamined_1 ?_
  refine g_bipush C (nI 48) dX8_isExamined_4 (by decide) ?_
  refine g_iald C 1 rfl (by omega) (by decide) dX8_isExamined_6 ?_
  refine g_iload_n C dX8_isExamined_7 rfl 1 rfl ?_
  refine g_ishr C dX8_isExamined_8 ?_
  refine g_iconst C (nI 1) dX8_isExamined_9 (by decide) ?_
  refine g_iand C dX8_isExamined_10 ?_
  refine g_if_eq C 18 dX8_isExamined_11 (by decide) (fun cq1 => ?_) (fun cq1 => ?_)
  · refine g_iconst C (nI 0) dX8_isExamined_18 (by decide) ?_
    exact g_zret C X rfl dX8_isExamined_19 (⟨congrArg (fun z => some (Value.int z)) (bI_f (fun z => z cq1)).symm, rfl⟩)
  · refine g_iconst C (nI 1) dX8_isExamined_14 (by decide) ?_
    refine g_goto C 19 dX8_isExamined_15 (by decide) ?_
    exact g_zret C X rfl dX8_isExamined_19 (⟨congrArg (fun z => some (Value.int z)) (bI_t (cq1)).symm, rfl⟩)

set_option maxHeartbeats 4000000 in
set_option maxRecDepth 100000 in
theorem kX8_examine (l : Launch) (E : EX) (h0 h1 : Nat) (f : Nat → Int32) (q : Nat) (hq : q < 6) : M l E yX8_examine wsX8_examine { frames := 0, cells := 0, slots := 0, locals := 0 } 0 0 [.ref h0, .int (nI q)] [(h0, oB 8 [.ref h1]), (h1, iA E 50 f)] (is1 none [(h0, oB 8 [.ref h1]), (h1, iA E 50 (upd f 48 (f 48 ||| nI (2 ^ q))))]) := by
  refine M.ofG (cc := cX8_examine) (maxL := 2) (ret := none) (lv := [(0, .ref h0), (1, .int (nI q))]) (own := RX8) (by decide) rfl rfl (Nat.le_of_ble_eq_true rfl) rfl ?_
  intro K C X _
  have i8 : ∀ w ∈ wsX80, w ∈ wsX8_examine := by decide +kernel
  refine g_aload_n C dX8_examine_0 rfl 0 rfl ?_
  refine g_get C i8 0 rfl rfl 0 (by decide) (List.mem_of_getElem? (i := 1) rfl) rfl rfl dX8_examine_1 ?_
  refine g_bipush C (nI 48) dX8_examine_4 (by decide) ?_
  refine g_dup2 C dX8_examine_6 rfl rfl ?_
  refine g_iald C 1 rfl (by omega) (by decide) dX8_examine_7 ?_
  refine g_iconst C (nI 1) dX8_examine_8 (by decide) ?_
  refine g_iload_n C dX8_examine_9 rfl 1 rfl ?_
  refine g_ishl1 C dX8_examine_10 (by omega) ?_
  refine g_ior C dX8_examine_11 ?_
  refine g_iast C (ws' := fun fq1 => [(h0, oB 8 [.ref h1]), (h1, iA E 50 fq1)]) 1 rfl (by omega) (by decide) dX8_examine_12 (fun _ _ => rfl) (fun fq1 efq1 => ?_)
  exact g_vret C X dX8_examine_13 (⟨rfl, by simp [efq1]⟩)

set_option maxHeartbeats 4000000 in
set_option maxRecDepth 100000 in
theorem kX8_thingsOn (l : Launch) (E : EX) (h0 h1 : Nat) (f : Nat → Int32) (q : Nat) (hq : q < 6) : M l E yX8_thingsOn wsX8_thingsOn { frames := 1, cells := 0, slots := 0, locals := 22 } 0 0 [.ref h0, .int (nI q)] [(h0, oB 8 [.ref h1]), (h1, iA E 50 f)] (is1 (some (.int (thOn f q 7))) [(h0, oB 8 [.ref h1]), (h1, iA E 50 f)]) := by
  refine M.ofG (cc := cX8_thingsOn) (maxL := 4) (ret := (some .int)) (lv := [(0, .ref h0), (1, .int (nI q))]) (own := RX8) (by decide) rfl rfl (Nat.le_of_ble_eq_true rfl) rfl ?_
  intro K C X _
  refine g_iconst C (nI 0) dX8_thingsOn_0 (by decide) ?_
  refine g_istore_n C (lv' := [(2, .int (nI 0)), (0, .ref h0), (1, .int (nI q))]) dX8_thingsOn_1 rfl (by decide) rfl ?_
  refine g_iconst C (nI 0) dX8_thingsOn_2 (by decide) ?_
  refine g_istore_n C (lv' := [(3, .int (nI 0)), (2, .int (nI 0)), (0, .ref h0), (1, .int (nI q))]) dX8_thingsOn_3 rfl (by decide) rfl ?_
  have L4 : ∀ (zz k : Nat) (a : Int32), k + zz = 7 + 1 → k ≤ 7 → (a = thOn f q k) → G K 0 0 4 [(0, .ref h0), (1, .int (nI q)), (2, .int a), (3, .int (nI k))] [] [(h0, oB 8 [.ref h1]), (h1, iA E 50 f)] := by
    intro zz
    induction zz with
    | zero => intro k a hL4 gL4; exfalso; omega
    | succ zz ihL4 =>
      intro k a hL4 gL4 ha
      refine g_iload_n C dX8_thingsOn_4 rfl 3 rfl ?_
      refine g_bipush C (nI 7) dX8_thingsOn_5 (by decide) ?_
      refine g_icmp_geN C 31 dX8_thingsOn_7 (by decide) (by omega) (by omega) (fun cq1 => ?_) (fun cq1 => ?_)
      · have hk : k = 7 := by omega
        refine g_iload_n C dX8_thingsOn_31 rfl 2 rfl ?_
        exact g_iret C X dX8_thingsOn_32 (⟨by rw [ha, hk], rfl⟩)
      · refine g_aload_n C dX8_thingsOn_10 rfl 0 rfl ?_
        refine g_iload_n C dX8_thingsOn_11 rfl 1 rfl ?_
        refine g_iload_n C dX8_thingsOn_12 rfl 3 rfl ?_
        refine g_callV C (rest := []) (n := 2) (kX8_times l E h0 h1 f q k (by omega) (by omega)) gX8_thingsOn_X8_times rfl ⟨rfl, rfl⟩ (by decide) (Nat.le_of_ble_eq_true rfl) rfl (by decide +kernel) rfl dX8_thingsOn_13 0 rfl rfl [0, 1] [] rfl rfl ?_
        refine g_is1 (ws2 := [(h0, oB 8 [.ref h1]), (h1, iA E 50 f)]) (st2 := [.int (f (q * 7 + k))]) [0, 1] rfl rfl rfl ?_
        refine g_if_le C 25 dX8_thingsOn_16 (by decide) (fun cq2 => ?_) (fun cq2 => ?_)
        · refine g_iincN C (lv' := [(3, .int (nI (k + 1))), (0, .ref h0), (1, .int (nI q)), (2, .int a)]) dX8_thingsOn_25 3 rfl (by decide) rfl ?_
          refine g_goto C 4 dX8_thingsOn_28 (by decide) ?_
          refine g_sub (lv' := [(0, .ref h0), (1, .int (nI q)), (2, .int a), (3, .int (nI (k + 1)))]) [1, 2, 3, 0] rfl ?_
          exact ihL4 (k + 1) a (by omega) (by omega) (by first | omega | (simp [thOn, ha, cq1, cq2]; done))
        · refine g_iload_n C dX8_thingsOn_19 rfl 2 rfl ?_
          refine g_iconst C (nI 1) dX8_thingsOn_20 (by decide) ?_
          refine g_iload_n C dX8_thingsOn_21 rfl 3 rfl ?_
          refine g_ishl1 C dX8_thingsOn_22 (by omega) ?_
          refine g_ior C dX8_thingsOn_23 ?_
          refine g_nm (fun yq3 eyq3 => ?_)
          refine g_istore_n C (lv' := [(2, .int yq3), (0, .ref h0), (1, .int (nI q)), (3, .int (nI k))]) dX8_thingsOn_24 rfl (by decide) rfl ?_
          refine g_iincN C (lv' := [(3, .int (nI (k + 1))), (2, .int yq3), (0, .ref h0), (1, .int (nI q))]) dX8_thingsOn_25 3 rfl (by decide) rfl ?_
          refine g_goto C 4 dX8_thingsOn_28 (by decide) ?_
          refine g_sub (lv' := [(0, .ref h0), (1, .int (nI q)), (2, .int yq3), (3, .int (nI (k + 1)))]) [2, 3, 1, 0] rfl ?_
          exact ihL4 (k + 1) yq3 (by omega) (by omega) (by first | omega | (simp [thOn, ha, cq1, cq2, eyq3]; done))
  refine g_sub (lv' := [(0, .ref h0), (1, .int (nI q)), (2, .int (nI 0)), (3, .int (nI 0))]) [2, 3, 1, 0] rfl ?_
  exact L4 (7 + 1 - 0) 0 (nI 0) (by omega) (by omega) (by first | rfl | omega | (simp [thOn]; done))

set_option maxHeartbeats 4000000 in
set_option maxRecDepth 100000 in
theorem kX8_thingsOnSet (l : Launch) (E : EX) (h0 h1 : Nat) (f : Nat → Int32) (x : Int32)  : M l E yX8_thingsOnSet wsX8_thingsOnSet { frames := 2, cells := 0, slots := 0, locals := 45 } 0 0 [.ref h0, .int x] [(h0, oB 8 [.ref h1]), (h1, iA E 50 f)] (is1 (some (.int (thSet f x 6))) [(h0, oB 8 [.ref h1]), (h1, iA E 50 f)]) := by
  refine M.ofG (cc := cX8_thingsOnSet) (maxL := 4) (ret := (some .int)) (lv := [(0, .ref h0), (1, .int x)]) (own := RX8) (by decide) rfl rfl (Nat.le_of_ble_eq_true rfl) rfl ?_
  intro K C X _
  refine g_iconst C (nI 0) dX8_thingsOnSet_0 (by decide) ?_
  refine g_istore_n C (lv' := [(2, .int (nI 0)), (0, .ref h0), (1, .int x)]) dX8_thingsOnSet_1 rfl (by decide) rfl ?_
  refine g_iconst C (nI 0) dX8_thingsOnSet_2 (by decide) ?_
  refine g_istore_n C (lv' := [(3, .int (nI 0)), (2, .int (nI 0)), (0, .ref h0), (1, .int x)]) dX8_thingsOnSet_3 rfl (by decide) rfl ?_
  have L4 : ∀ (zz k : Nat) (a : Int32), k + zz = 6 + 1 → k ≤ 6 → (a = thSet f x k) → G K 0 0 4 [(0, .ref h0), (1, .int x), (2, .int a), (3, .int (nI k))] [] [(h0, oB 8 [.ref h1]), (h1, iA E 50 f)] := by
    intro zz
    induction zz with
    | zero => intro k a hL4 gL4; exfalso; omega
    | succ zz ihL4 =>
      intro k a hL4 gL4 ha
      refine g_iload_n C dX8_thingsOnSet_4 rfl 3 rfl ?_
      refine g_bipush C (nI 6) dX8_thingsOnSet_5 (by decide) ?_
      refine g_icmp_geN C 32 dX8_thingsOnSet_7 (by decide) (by omega) (by omega) (fun cq1 => ?_) (fun cq1 => ?_)
      · have hk : k = 6 := by omega
        refine g_iload_n C dX8_thingsOnSet_32 rfl 2 rfl ?_
        exact g_iret C X dX8_thingsOnSet_33 (⟨by rw [ha, hk], rfl⟩)
      · refine g_iload_n C dX8_thingsOnSet_10 rfl 1 rfl ?_
        refine g_iload_n C dX8_thingsOnSet_11 rfl 3 rfl ?_
        refine g_ishr C dX8_thingsOnSet_12 ?_
        refine g_iconst C (nI 1) dX8_thingsOnSet_13 (by decide) ?_
        refine g_iand C dX8_thingsOnSet_14 ?_
        refine g_if_eq C 26 dX8_thingsOnSet_15 (by decide) (fun cq2 => ?_) (fun cq2 => ?_)
        · refine g_iincN C (lv' := [(3, .int (nI (k + 1))), (0, .ref h0), (1, .int x), (2, .int a)]) dX8_thingsOnSet_26 3 rfl (by decide) rfl ?_
          refine g_goto C 4 dX8_thingsOnSet_29 (by decide) ?_
          refine g_sub (lv' := [(0, .ref h0), (1, .int x), (2, .int a), (3, .int (nI (k + 1)))]) [1, 2, 3, 0] rfl ?_
          exact ihL4 (k + 1) a (by omega) (by omega) (by first | omega | (simp [thSet, ha, cq1, cq2]; done))
        · refine g_iload_n C dX8_thingsOnSet_18 rfl 2 rfl ?_
          refine g_aload_n C dX8_thingsOnSet_19 rfl 0 rfl ?_
          refine g_iload_n C dX8_thingsOnSet_20 rfl 3 rfl ?_
          refine g_callV C (rest := [.int a]) (n := 1) (kX8_thingsOn l E h0 h1 f k (by omega)) gX8_thingsOnSet_X8_thingsOn rfl ⟨rfl, rfl⟩ (by decide) (Nat.le_of_ble_eq_true rfl) rfl (by decide +kernel) rfl dX8_thingsOnSet_21 0 rfl rfl [0, 1] [] rfl rfl ?_
          refine g_is1 (ws2 := [(h0, oB 8 [.ref h1]), (h1, iA E 50 f)]) (st2 := [.int (thOn f k 7), .int a]) [0, 1] rfl rfl rfl ?_
          refine g_ior C dX8_thingsOnSet_24 ?_
          refine g_nm (fun yq3 eyq3 => ?_)
          refine g_istore_n C (lv' := [(2, .int yq3), (0, .ref h0), (1, .int x), (3, .int (nI k))]) dX8_thingsOnSet_25 rfl (by decide) rfl ?_
          refine g_iincN C (lv' := [(3, .int (nI (k + 1))), (2, .int yq3), (0, .ref h0), (1, .int x)]) dX8_thingsOnSet_26 3 rfl (by decide) rfl ?_
          refine g_goto C 4 dX8_thingsOnSet_29 (by decide) ?_
          refine g_sub (lv' := [(0, .ref h0), (1, .int x), (2, .int yq3), (3, .int (nI (k + 1)))]) [2, 3, 1, 0] rfl ?_
          exact ihL4 (k + 1) yq3 (by omega) (by omega) (by first | omega | (simp [thSet, ha, cq1, cq2, eyq3]; done))
  refine g_sub (lv' := [(0, .ref h0), (1, .int x), (2, .int (nI 0)), (3, .int (nI 0))]) [2, 3, 1, 0] rfl ?_
  exact L4 (6 + 1 - 0) 0 (nI 0) (by omega) (by omega) (by first | rfl | omega | (simp [thSet]; done))

set_option maxHeartbeats 4000000 in
set_option maxRecDepth 100000 in
theorem kX8_allThings (l : Launch) (E : EX) (h0 h1 : Nat) (f : Nat → Int32)  : M l E yX8_allThings wsX8_allThings { frames := 3, cells := 0, slots := 0, locals := 68 } 0 0 [.ref h0] [(h0, oB 8 [.ref h1]), (h1, iA E 50 f)] (is1 (some (.int (thSet f (nI 63) 6))) [(h0, oB 8 [.ref h1]), (h1, iA E 50 f)]) := by
  refine M.ofG (cc := cX8_allThings) (maxL := 1) (ret := (some .int)) (lv := [(0, .ref h0)]) (own := RX8) (by decide) rfl rfl (Nat.le_of_ble_eq_true rfl) rfl ?_
  intro K C X _
  refine g_aload_n C dX8_allThings_0 rfl 0 rfl ?_
  refine g_bipush C (nI 63) dX8_allThings_1 (by decide) ?_
  refine g_callV C (rest := []) (n := 1) (kX8_thingsOnSet l E h0 h1 f (nI 63) ) gX8_allThings_X8_thingsOnSet rfl ⟨rfl, rfl⟩ (by decide) (Nat.le_of_ble_eq_true rfl) rfl (by decide +kernel) rfl dX8_allThings_3 0 rfl rfl [0, 1] [] rfl rfl ?_
  refine g_is1 (ws2 := [(h0, oB 8 [.ref h1]), (h1, iA E 50 f)]) (st2 := [.int (thSet f (nI 63) 6)]) [0, 1] rfl rfl rfl ?_
  exact g_iret C X dX8_allThings_6 (⟨rfl, rfl⟩)

set_option maxHeartbeats 4000000 in
set_option maxRecDepth 100000 in
theorem kX8_knownThings (l : Launch) (E : EX) (h0 h1 : Nat) (f : Nat → Int32)  : M l E yX8_knownThings wsX8_knownThings { frames := 3, cells := 0, slots := 0, locals := 68 } 0 0 [.ref h0] [(h0, oB 8 [.ref h1]), (h1, iA E 50 f)] (is1 (some (.int (thSet f (f 48) 6))) [(h0, oB 8 [.ref h1]), (h1, iA E 50 f)]) := by
  refine M.ofG (cc := cX8_knownThings) (maxL := 1) (ret := (some .int)) (lv := [(0, .ref h0)]) (own := RX8) (by decide) rfl rfl (Nat.le_of_ble_eq_true rfl) rfl ?_
  intro K C X _
  have i8 : ∀ w ∈ wsX80, w ∈ wsX8_knownThings := by decide +kernel
  refine g_aload_n C dX8_knownThings_0 rfl 0 rfl ?_
  refine g_aload_n C dX8_knownThings_1 rfl 0 rfl ?_
  refine g_get C i8 0 rfl rfl 0 (by decide) (List.mem_of_getElem? (i := 1) rfl) rfl rfl dX8_knownThings_2 ?_
  refine g_bipush C (nI 48) dX8_knownThings_5 (by decide) ?_
  refine g_iald C 1 rfl (by omega) (by decide) dX8_knownThings_7 ?_
  refine g_callV C (rest := []) (n := 1) (kX8_thingsOnSet l E h0 h1 f (f 48) ) gX8_knownThings_X8_thingsOnSet rfl ⟨rfl, rfl⟩ (by decide) (Nat.le_of_ble_eq_true rfl) rfl (by decide +kernel) rfl dX8_knownThings_8 0 rfl rfl [0, 1] [] rfl rfl ?_
  refine g_is1 (ws2 := [(h0, oB 8 [.ref h1]), (h1, iA E 50 f)]) (st2 := [.int (thSet f (f 48) 6)]) [0, 1] rfl rfl rfl ?_
  exact g_iret C X dX8_knownThings_11 (⟨rfl, rfl⟩)

set_option maxHeartbeats 4000000 in
set_option maxRecDepth 100000 in
theorem kX8_timesOn (l : Launch) (E : EX) (h0 h1 : Nat) (f : Nat → Int32) (q : Nat) (x : Int32) (hq : q < 6) : M l E yX8_timesOn wsX8_timesOn { frames := 1, cells := 0, slots := 0, locals := 22 } 0 0 [.ref h0, .int (nI q), .int x] [(h0, oB 8 [.ref h1]), (h1, iA E 50 f)] (is1 (some (.int (tiOn f q x 7))) [(h0, oB 8 [.ref h1]), (h1, iA E 50 f)]) := by
  refine M.ofG (cc := cX8_timesOn) (maxL := 5) (ret := (some .int)) (lv := [(0, .ref h0), (1, .int (nI q)), (2, .int x)]) (own := RX8) (by decide) rfl rfl (Nat.le_of_ble_eq_true rfl) rfl ?_
  intro K C X _
  refine g_iconst C (nI 0) dX8_timesOn_0 (by decide) ?_
  refine g_istore_n C (lv' := [(3, .int (nI 0)), (0, .ref h0), (1, .int (nI q)), (2, .int x)]) dX8_timesOn_1 rfl (by decide) rfl ?_
  refine g_iconst C (nI 0) dX8_timesOn_2 (by decide) ?_
  refine g_istore C (lv' := [(4, .int (nI 0)), (3, .int (nI 0)), (0, .ref h0), (1, .int (nI q)), (2, .int x)]) dX8_timesOn_3 (by decide) rfl ?_
  have L5 : ∀ (zz k : Nat) (a : Int32), k + zz = 7 + 1 → k ≤ 7 → (a = tiOn f q x k) → G K 0 0 5 [(0, .ref h0), (1, .int (nI q)), (2, .int x), (3, .int a), (4, .int (nI k))] [] [(h0, oB 8 [.ref h1]), (h1, iA E 50 f)] := by
    intro zz
    induction zz with
    | zero => intro k a hL5 gL5; exfalso; omega
    | succ zz ihL5 =>
      intro k a hL5 gL5 ha
      refine g_iload C dX8_timesOn_5 4 rfl ?_
      refine g_bipush C (nI 7) dX8_timesOn_7 (by decide) ?_
      refine g_icmp_geN C 37 dX8_timesOn_9 (by decide) (by omega) (by omega) (fun cq1 => ?_) (fun cq1 => ?_)
      · have hk : k = 7 := by omega
        refine g_iload_n C dX8_timesOn_37 rfl 3 rfl ?_
        exact g_iret C X dX8_timesOn_38 (⟨by rw [ha, hk], rfl⟩)
      · refine g_iload_n C dX8_timesOn_12 rfl 2 rfl ?_
        refine g_iload C dX8_timesOn_13 4 rfl ?_
        refine g_ishr C dX8_timesOn_15 ?_
        refine g_iconst C (nI 1) dX8_timesOn_16 (by decide) ?_
        refine g_iand C dX8_timesOn_17 ?_
        refine g_if_eq C 31 dX8_timesOn_18 (by decide) (fun cq2 => ?_) (fun cq2 => ?_)
        · refine g_iincN C (lv' := [(4, .int (nI (k + 1))), (0, .ref h0), (1, .int (nI q)), (2, .int x), (3, .int a)]) dX8_timesOn_31 4 rfl (by decide) rfl ?_
          refine g_goto C 5 dX8_timesOn_34 (by decide) ?_
          refine g_sub (lv' := [(0, .ref h0), (1, .int (nI q)), (2, .int x), (3, .int a), (4, .int (nI (k + 1)))]) [1, 2, 3, 4, 0] rfl ?_
          exact ihL5 (k + 1) a (by omega) (by omega) (by first | omega | (simp [tiOn, ha, cq1, cq2]; done))
        · refine g_iload_n C dX8_timesOn_21 rfl 3 rfl ?_
          refine g_aload_n C dX8_timesOn_22 rfl 0 rfl ?_
          refine g_iload_n C dX8_timesOn_23 rfl 1 rfl ?_
          refine g_iload C dX8_timesOn_24 4 rfl ?_
          refine g_callV C (rest := [.int a]) (n := 2) (kX8_times l E h0 h1 f q k (by omega) (by omega)) gX8_timesOn_X8_times rfl ⟨rfl, rfl⟩ (by decide) (Nat.le_of_ble_eq_true rfl) rfl (by decide +kernel) rfl dX8_timesOn_26 0 rfl rfl [0, 1] [] rfl rfl ?_
          refine g_is1 (ws2 := [(h0, oB 8 [.ref h1]), (h1, iA E 50 f)]) (st2 := [.int (f (q * 7 + k)), .int a]) [0, 1] rfl rfl rfl ?_
          refine g_iadd C dX8_timesOn_29 ?_
          refine g_nm (fun yq3 eyq3 => ?_)
          refine g_istore_n C (lv' := [(3, .int yq3), (0, .ref h0), (1, .int (nI q)), (2, .int x), (4, .int (nI k))]) dX8_timesOn_30 rfl (by decide) rfl ?_
          refine g_iincN C (lv' := [(4, .int (nI (k + 1))), (3, .int yq3), (0, .ref h0), (1, .int (nI q)), (2, .int x)]) dX8_timesOn_31 4 rfl (by decide) rfl ?_
          refine g_goto C 5 dX8_timesOn_34 (by decide) ?_
          refine g_sub (lv' := [(0, .ref h0), (1, .int (nI q)), (2, .int x), (3, .int yq3), (4, .int (nI (k + 1)))]) [2, 3, 4, 1, 0] rfl ?_
          exact ihL5 (k + 1) yq3 (by omega) (by omega) (by first | omega | (simp [tiOn, ha, cq1, cq2, eyq3]; done))
  refine g_sub (lv' := [(0, .ref h0), (1, .int (nI q)), (2, .int x), (3, .int (nI 0)), (4, .int (nI 0))]) [2, 3, 4, 1, 0] rfl ?_
  exact L5 (7 + 1 - 0) 0 (nI 0) (by omega) (by omega) (by first | rfl | omega | (simp [tiOn]; done))

set_option maxHeartbeats 4000000 in
set_option maxRecDepth 100000 in
theorem kX8_timesOfSet (l : Launch) (E : EX) (h0 h1 : Nat) (f : Nat → Int32) (x : Int32)  : M l E yX8_timesOfSet wsX8_timesOfSet { frames := 2, cells := 0, slots := 0, locals := 46 } 0 0 [.ref h0, .int x] [(h0, oB 8 [.ref h1]), (h1, iA E 50 f)] (is1 (some (.int (tiSet f x 6))) [(h0, oB 8 [.ref h1]), (h1, iA E 50 f)]) := by
  refine M.ofG (cc := cX8_timesOfSet) (maxL := 4) (ret := (some .int)) (lv := [(0, .ref h0), (1, .int x)]) (own := RX8) (by decide) rfl rfl (Nat.le_of_ble_eq_true rfl) rfl ?_
  intro K C X _
  refine g_iconst C (nI 0) dX8_timesOfSet_0 (by decide) ?_
  refine g_istore_n C (lv' := [(2, .int (nI 0)), (0, .ref h0), (1, .int x)]) dX8_timesOfSet_1 rfl (by decide) rfl ?_
  refine g_iconst C (nI 0) dX8_timesOfSet_2 (by decide) ?_
  refine g_istore_n C (lv' := [(3, .int (nI 0)), (2, .int (nI 0)), (0, .ref h0), (1, .int x)]) dX8_timesOfSet_3 rfl (by decide) rfl ?_
  have L4 : ∀ (zz k : Nat) (a : Int32), k + zz = 6 + 1 → k ≤ 6 → (a = tiSet f x k) → G K 0 0 4 [(0, .ref h0), (1, .int x), (2, .int a), (3, .int (nI k))] [] [(h0, oB 8 [.ref h1]), (h1, iA E 50 f)] := by
    intro zz
    induction zz with
    | zero => intro k a hL4 gL4; exfalso; omega
    | succ zz ihL4 =>
      intro k a hL4 gL4 ha
      refine g_iload_n C dX8_timesOfSet_4 rfl 3 rfl ?_
      refine g_bipush C (nI 6) dX8_timesOfSet_5 (by decide) ?_
      refine g_icmp_geN C 25 dX8_timesOfSet_7 (by decide) (by omega) (by omega) (fun cq1 => ?_) (fun cq1 => ?_)
      · have hk : k = 6 := by omega
        refine g_iload_n C dX8_timesOfSet_25 rfl 2 rfl ?_
        exact g_iret C X dX8_timesOfSet_26 (⟨by rw [ha, hk], rfl⟩)
      · refine g_iload_n C dX8_timesOfSet_10 rfl 2 rfl ?_
        refine g_aload_n C dX8_timesOfSet_11 rfl 0 rfl ?_
        refine g_iload_n C dX8_timesOfSet_12 rfl 3 rfl ?_
        refine g_iload_n C dX8_timesOfSet_13 rfl 1 rfl ?_
        refine g_callV C (rest := [.int a]) (n := 2) (kX8_timesOn l E h0 h1 f k x (by omega)) gX8_timesOfSet_X8_timesOn rfl ⟨rfl, rfl⟩ (by decide) (Nat.le_of_ble_eq_true rfl) rfl (by decide +kernel) rfl dX8_timesOfSet_14 0 rfl rfl [0, 1] [] rfl rfl ?_
        refine g_is1 (ws2 := [(h0, oB 8 [.ref h1]), (h1, iA E 50 f)]) (st2 := [.int (tiOn f k x 7), .int a]) [0, 1] rfl rfl rfl ?_
        refine g_iadd C dX8_timesOfSet_17 ?_
        refine g_nm (fun yq2 eyq2 => ?_)
        refine g_istore_n C (lv' := [(2, .int yq2), (0, .ref h0), (1, .int x), (3, .int (nI k))]) dX8_timesOfSet_18 rfl (by decide) rfl ?_
        refine g_iincN C (lv' := [(3, .int (nI (k + 1))), (2, .int yq2), (0, .ref h0), (1, .int x)]) dX8_timesOfSet_19 3 rfl (by decide) rfl ?_
        refine g_goto C 4 dX8_timesOfSet_22 (by decide) ?_
        refine g_sub (lv' := [(0, .ref h0), (1, .int x), (2, .int yq2), (3, .int (nI (k + 1)))]) [2, 3, 1, 0] rfl ?_
        exact ihL4 (k + 1) yq2 (by omega) (by omega) (by first | omega | (simp [tiSet, ha, cq1, eyq2]; done))
  refine g_sub (lv' := [(0, .ref h0), (1, .int x), (2, .int (nI 0)), (3, .int (nI 0))]) [2, 3, 1, 0] rfl ?_
  exact L4 (6 + 1 - 0) 0 (nI 0) (by omega) (by omega) (by first | rfl | omega | (simp [tiSet]; done))

set_option maxHeartbeats 4000000 in
set_option maxRecDepth 100000 in
theorem kX8_sleepersOn (l : Launch) (E : EX) (h0 h1 : Nat) (f : Nat → Int32) (q : Nat)  : M l E yX8_sleepersOn wsX8_sleepersOn { frames := 1, cells := 0, slots := 0, locals := 21 } 0 0 [.ref h0, .int (nI q)] [(h0, oB 8 [.ref h1]), (h1, iA E 50 f)] (is1 (some (.int (slOn f q 6))) [(h0, oB 8 [.ref h1]), (h1, iA E 50 f)]) := by
  refine M.ofG (cc := cX8_sleepersOn) (maxL := 4) (ret := (some .int)) (lv := [(0, .ref h0), (1, .int (nI q))]) (own := RX8) (by decide) rfl rfl (Nat.le_of_ble_eq_true rfl) rfl ?_
  intro K C X _
  refine g_iconst C (nI 0) dX8_sleepersOn_0 (by decide) ?_
  refine g_istore_n C (lv' := [(2, .int (nI 0)), (0, .ref h0), (1, .int (nI q))]) dX8_sleepersOn_1 rfl (by decide) rfl ?_
  refine g_iconst C (nI 0) dX8_sleepersOn_2 (by decide) ?_
  refine g_istore_n C (lv' := [(3, .int (nI 0)), (2, .int (nI 0)), (0, .ref h0), (1, .int (nI q))]) dX8_sleepersOn_3 rfl (by decide) rfl ?_
  have L4 : ∀ (zz k : Nat) (a : Int32), k + zz = 6 + 1 → k ≤ 6 → (a = slOn f q k) → G K 0 0 4 [(0, .ref h0), (1, .int (nI q)), (2, .int a), (3, .int (nI k))] [] [(h0, oB 8 [.ref h1]), (h1, iA E 50 f)] := by
    intro zz
    induction zz with
    | zero => intro k a hL4 gL4; exfalso; omega
    | succ zz ihL4 =>
      intro k a hL4 gL4 ha
      refine g_iload_n C dX8_sleepersOn_4 rfl 3 rfl ?_
      refine g_bipush C (nI 6) dX8_sleepersOn_5 (by decide) ?_
      refine g_icmp_geN C 31 dX8_sleepersOn_7 (by decide) (by omega) (by omega) (fun cq1 => ?_) (fun cq1 => ?_)
      · have hk : k = 6 := by omega
        refine g_iload_n C dX8_sleepersOn_31 rfl 2 rfl ?_
        exact g_iret C X dX8_sleepersOn_32 (⟨by rw [ha, hk], rfl⟩)
      · refine g_aload_n C dX8_sleepersOn_10 rfl 0 rfl ?_
        refine g_iload_n C dX8_sleepersOn_11 rfl 3 rfl ?_
        refine g_callV C (rest := []) (n := 1) (kX8_bedOf l E h0 h1 f k (by omega)) gX8_sleepersOn_X8_bedOf rfl ⟨rfl, rfl⟩ (by decide) (Nat.le_of_ble_eq_true rfl) rfl (by decide +kernel) rfl dX8_sleepersOn_12 0 rfl rfl [0, 1] [] rfl rfl ?_
        refine g_is1 (ws2 := [(h0, oB 8 [.ref h1]), (h1, iA E 50 f)]) (st2 := [.int (f (42 + k))]) [0, 1] rfl rfl rfl ?_
        refine g_iload_n C dX8_sleepersOn_15 rfl 1 rfl ?_
        refine g_icmp_ne C 25 dX8_sleepersOn_16 (by decide) (fun cq2 => ?_) (fun cq2 => ?_)
        · refine g_iincN C (lv' := [(3, .int (nI (k + 1))), (0, .ref h0), (1, .int (nI q)), (2, .int a)]) dX8_sleepersOn_25 3 rfl (by decide) rfl ?_
          refine g_goto C 4 dX8_sleepersOn_28 (by decide) ?_
          refine g_sub (lv' := [(0, .ref h0), (1, .int (nI q)), (2, .int a), (3, .int (nI (k + 1)))]) [1, 2, 3, 0] rfl ?_
          exact ihL4 (k + 1) a (by omega) (by omega) (by first | omega | (simp [slOn, ha, cq1, cq2]; done))
        · refine g_iload_n C dX8_sleepersOn_19 rfl 2 rfl ?_
          refine g_iconst C (nI 1) dX8_sleepersOn_20 (by decide) ?_
          refine g_iload_n C dX8_sleepersOn_21 rfl 3 rfl ?_
          refine g_ishl1 C dX8_sleepersOn_22 (by omega) ?_
          refine g_ior C dX8_sleepersOn_23 ?_
          refine g_nm (fun yq3 eyq3 => ?_)
          refine g_istore_n C (lv' := [(2, .int yq3), (0, .ref h0), (1, .int (nI q)), (3, .int (nI k))]) dX8_sleepersOn_24 rfl (by decide) rfl ?_
          refine g_iincN C (lv' := [(3, .int (nI (k + 1))), (2, .int yq3), (0, .ref h0), (1, .int (nI q))]) dX8_sleepersOn_25 3 rfl (by decide) rfl ?_
          refine g_goto C 4 dX8_sleepersOn_28 (by decide) ?_
          refine g_sub (lv' := [(0, .ref h0), (1, .int (nI q)), (2, .int yq3), (3, .int (nI (k + 1)))]) [2, 3, 1, 0] rfl ?_
          exact ihL4 (k + 1) yq3 (by omega) (by omega) (by first | omega | (simp [slOn, ha, cq1, cq2, eyq3]; done))
  refine g_sub (lv' := [(0, .ref h0), (1, .int (nI q)), (2, .int (nI 0)), (3, .int (nI 0))]) [2, 3, 1, 0] rfl ?_
  exact L4 (6 + 1 - 0) 0 (nI 0) (by omega) (by omega) (by first | rfl | omega | (simp [slOn]; done))
