/-! Told: people, pillows, clashes; and what of Scene stands on it -/
def ush (x : Int32) (k : Nat) : Int32 := (x.toUInt32 >>> ((nI k).toUInt32 &&& Int32.toUInt32 31)).toInt32
def bc1 (x : Int32) : Int32 := x - (ush x 1 &&& 1431655765)
def bc2 (x : Int32) : Int32 := (x &&& 858993459) + (ush x 2 &&& 858993459)
def bc3 (x : Int32) : Int32 := (x + ush x 4) &&& 252645135
def bc4 (x : Int32) : Int32 := x + ush x 8
def bc5 (x : Int32) : Int32 := x + ush x 16
def bc (x : Int32) : Int32 := bc5 (bc4 (bc3 (bc2 (bc1 x)))) &&& nI 63
abbrev inR (p : Int32) (n : Nat) : Prop := ¬ p < 0 ∧ ¬ nI n ≤ p
def knT (kn : Nat → Int32) (x : Int32) : Nat → Int32
  | 0 => nI 0
  | k + 1 => if tb x k = 0 then knT kn x k else knT kn x k ||| kn k
def kn1 (kn : Nat → Int32) : Nat → Int32 × Int32
  | 0 => (nI 0, nI 0)
  | k + 1 => ((kn1 kn k).1 ||| kn k, (kn1 kn k).2 ||| ((kn1 kn k).1 &&& kn k))
def clW (cl : Nat → Int32) (x : Int32) : Nat → Int32
  | 0 => nI 0
  | k + 1 => if tb x k = 0 then clW cl x k else clW cl x k + bc (cl k &&& x)
def thAt (x pl : Int32) : Nat → Nat → Int32 → Int32
  | 0, _, _ => (-9)
  | n + 1, k, a => if tb x k = 0 then thAt x pl n (k + 1) a else if a = pl then nI k else thAt x pl n (k + 1) (a + nI 1)
def drx (p : Nat) (z nt : Int32) : Int64 := 7919 * z.toInt64 + 6151 * (nI p).toInt64 + 4253 * nt.toInt64 + 1
def drw (p : Nat) (z nt : Int32) : Int32 := ((drx p z nt * drx p z nt - drx p z nt * drx p z nt / 65521 * 65521) / 8).toInt32
def irm (x y : Int32) : Int32 := x - x / y * y
def sayS (kn ta : Nat → Int32) (p : Nat) (z nt : Int32) : Int32 :=
  if bc (kn p) = 0 then (-9) else if irm (drw p z nt) (nI 10) < ta p then thAt (kn p) (irm (drw p z nt / nI 10) (bc (kn p))) 7 0 (nI 0) else (-9)
def clA (cl : Nat → Int32) (a b : Nat) : Nat → Int32 := upd (upd cl a (cl a ||| nI (2 ^ b))) b (upd cl a (cl a ||| nI (2 ^ b)) b ||| nI (2 ^ a))
def begA (f : Nat → Int32) (n m : Nat) : Nat → Nat → Int32
  | 0 => filA f (nI 0) 50
  | k + 1 => upd (begA f n m k) (42 + k) (if inR (nI k) n ∧ inR (nI k) m then nI k else (-9))
def hrS (f : Nat → Int32) (b : Int32) (t : Nat) : Nat → Int32 := if inR b 6 then upd f (b.toNatClampNeg * 7 + t) (imin (f (b.toNatClampNeg * 7 + t) + nI 1) (nI 99)) else f
def slpA (f : Nat → Int32) (q : Nat) : Nat → Nat → Int32
  | 0 => f
  | k + 1 => upd (slpA f q k) (q * 7 + k) (imin (nI 0) (nI 99))
def slipS (f : Nat → Int32) (q : Nat) : Nat → Int32 := upd (slpA f q 7) 48 (slpA f q 7 48 &&& (nI (2 ^ q) ^^^ (-1)))
def mixT (f : Nat → Int32) (a b t : Nat) : Nat → Int32 := upd (upd f (a * 7 + t) (imin (f (a * 7 + t) + f (b * 7 + t)) (nI 99))) (b * 7 + t) (imin (f (a * 7 + t) + f (b * 7 + t)) (nI 99))
def mixA (f : Nat → Int32) (a b : Nat) : Nat → Nat → Int32
  | 0 => f
  | k + 1 => mixT (mixA f a b k) a b k
/-- a night: person by person; how many said something, what was heard -/
def slpS (kn ta : Nat → Int32) (z nt : Int32) (f : Nat → Int32) : Nat → Nat × (Nat → Int32)
  | 0 => (0, f)
  | k + 1 => if sayS kn ta k z nt < 0 then slpS kn ta z nt f k else ((slpS kn ta z nt f k).1 + 1, hrS (slpS kn ta z nt f k).2 ((slpS kn ta z nt f k).2 (42 + k)) (sayS kn ta k z nt).toNatClampNeg)
theorem thAt_in (x pl : Int32) : ∀ (n k : Nat) (a : Int32), k + n ≤ 7 → thAt x pl n k a < 0 ∨ ∃ j, j < 7 ∧ thAt x pl n k a = nI j
  | 0, _, _, _ => Or.inl (by rw [thAt]; decide)
  | n + 1, k, a, h => by
    rw [thAt]
    by_cases h1 : tb x k = 0
    · rw [if_pos h1]; exact thAt_in x pl n (k + 1) a (by omega)
    · rw [if_neg h1]
      by_cases h2 : a = pl
      · rw [if_pos h2]; exact Or.inr ⟨k, by omega, rfl⟩
      · rw [if_neg h2]; exact thAt_in x pl n (k + 1) (a + nI 1) (by omega)
theorem sayS_in (kn ta : Nat → Int32) (p : Nat) (z nt : Int32) : sayS kn ta p z nt < 0 ∨ ∃ j, j < 7 ∧ sayS kn ta p z nt = nI j := by
  unfold sayS
  by_cases h1 : bc (kn p) = 0
  · rw [if_pos h1]; exact Or.inl (by decide)
  · rw [if_neg h1]
    by_cases h2 : irm (drw p z nt) (nI 10) < ta p
    · rw [if_pos h2]; exact thAt_in _ _ 7 0 _ (by decide)
    · rw [if_neg h2]; exact Or.inl (by decide)
theorem inR_nI {k n : Nat} (hk : k < 2 ^ 31) (hn : n < 2 ^ 31) : inR (nI k) n ↔ k < n := by
  unfold inR
  rw [nI_leI hn hk]
  exact ⟨fun h => Nat.not_le.mp h.2, fun h => ⟨nI_pos hk, Nat.not_le.mpr h⟩⟩
theorem inR_of {p : Int32} {n : Nat} (hn : n < 2 ^ 31) (h : inR p n) : ∃ j, j < n ∧ p = nI j := by
  rcases pk_ix p hn with h1 | h1 | h1
  · exact absurd h1 h.1
  · exact absurd h1 h.2
  · exact h1
theorem hrS_y {f : Nat → Int32} {j t : Nat} (h : j < 6) : hrS f (nI j) t = upd f (j * 7 + t) (imin (f (j * 7 + t) + nI 1) (nI 99)) := by
  unfold hrS
  rw [if_pos ((inR_nI (by omega) (by decide)).mpr h), nI_clamp (by omega)]
theorem hrS_hi {f : Nat → Int32} {b : Int32} {t i : Nat} (ht : t < 7) (hi : 42 ≤ i) : hrS f b t i = f i := by
  unfold hrS
  by_cases h : inR b 6
  · obtain ⟨j, hj, rfl⟩ := inR_of (by decide) h
    rw [if_pos h, nI_clamp (by omega)]
    exact if_neg (by omega)
  · rw [if_neg h]
theorem hrS_n {f : Nat → Int32} {b : Int32} {t : Nat} (h : ¬ inR b 6) : hrS f b t = f := if_neg h

set_option maxHeartbeats 4000000 in
set_option maxRecDepth 100000 in
theorem kJ6_bitCount_0f7a4 (l : Launch) (E : EX) (x : Int32)  : M l E yJ6_bitCount_0f7a4 wsJ6_bitCount_0f7a4 { frames := 0, cells := 0, slots := 0, locals := 0 } 0 0 [.int x] [] (is1 (some (.int (bc x))) []) := by
  refine M.ofG (cc := cJ6_bitCount_0f7a4) (maxL := 1) (ret := (some .int)) (lv := [(0, .int x)]) (own := RJ6) (by decide) rfl rfl (Nat.le_of_ble_eq_true rfl) rfl ?_
  intro K C X _
  refine g_iload_n C dJ6_bitCount_0f7a4_0 rfl 0 rfl ?_
  refine g_iload_n C dJ6_bitCount_0f7a4_1 rfl 0 rfl ?_
  refine g_iconst C (nI 1) dJ6_bitCount_0f7a4_2 (by decide) ?_
  obtain ⟨yq1, eyq1⟩ : ∃ z : Int32, z = (x.toUInt32 >>> ((nI 1).toUInt32 &&& Int32.toUInt32 31)).toInt32 := ⟨_, rfl⟩
  refine g_iushr C dJ6_bitCount_0f7a4_3 eyq1.symm ?_
  refine g_ldcw C (v := 1431655765) (List.mem_of_getElem? (i := 1) rfl) dJ6_bitCount_0f7a4_4 ?_
  refine g_iand C dJ6_bitCount_0f7a4_7 ?_
  refine g_isub C dJ6_bitCount_0f7a4_8 ?_
  refine g_nm (fun yq2 eyq2 => ?_)
  refine g_istore_n C (lv' := [(0, .int yq2)]) dJ6_bitCount_0f7a4_9 rfl (by decide) rfl ?_
  refine g_iload_n C dJ6_bitCount_0f7a4_10 rfl 0 rfl ?_
  refine g_ldcw C (v := 858993459) (List.mem_of_getElem? (i := 2) rfl) dJ6_bitCount_0f7a4_11 ?_
  refine g_iand C dJ6_bitCount_0f7a4_14 ?_
  refine g_iload_n C dJ6_bitCount_0f7a4_15 rfl 0 rfl ?_
  refine g_iconst C (nI 2) dJ6_bitCount_0f7a4_16 (by decide) ?_
  obtain ⟨yq3, eyq3⟩ : ∃ z : Int32, z = (yq2.toUInt32 >>> ((nI 2).toUInt32 &&& Int32.toUInt32 31)).toInt32 := ⟨_, rfl⟩
  refine g_iushr C dJ6_bitCount_0f7a4_17 eyq3.symm ?_
  refine g_ldcw C (v := 858993459) (List.mem_of_getElem? (i := 2) rfl) dJ6_bitCount_0f7a4_18 ?_
  refine g_iand C dJ6_bitCount_0f7a4_21 ?_
  refine g_iadd C dJ6_bitCount_0f7a4_22 ?_
  refine g_nm (fun yq4 eyq4 => ?_)
  refine g_istore_n C (lv' := [(0, .int yq4)]) dJ6_bitCount_0f7a4_23 rfl (by decide) rfl ?_
  refine g_iload_n C dJ6_bitCount_0f7a4_24 rfl 0 rfl ?_
  refine g_iload_n C dJ6_bitCount_0f7a4_25 rfl 0 rfl ?_
  refine g_iconst C (nI 4) dJ6_bitCount_0f7a4_26 (by decide) ?_
  obtain ⟨yq5, eyq5⟩ : ∃ z : Int32, z = (yq4.toUInt32 >>> ((nI 4).toUInt32 &&& Int32.toUInt32 31)).toInt32 := ⟨_, rfl⟩
  refine g_iushr C dJ6_bitCount_0f7a4_27 eyq5.symm ?_
  refine g_iadd C dJ6_bitCount_0f7a4_28 ?_
  refine g_ldcw C (v := 252645135) (List.mem_of_getElem? (i := 3) rfl) dJ6_bitCount_0f7a4_29 ?_
  refine g_iand C dJ6_bitCount_0f7a4_32 ?_
  refine g_nm (fun yq6 eyq6 => ?_)
  refine g_istore_n C (lv' := [(0, .int yq6)]) dJ6_bitCount_0f7a4_33 rfl (by decide) rfl ?_
  refine g_iload_n C dJ6_bitCount_0f7a4_34 rfl 0 rfl ?_
  refine g_iload_n C dJ6_bitCount_0f7a4_35 rfl 0 rfl ?_
  refine g_bipush C (nI 8) dJ6_bitCount_0f7a4_36 (by decide) ?_
  obtain ⟨yq7, eyq7⟩ : ∃ z : Int32, z = (yq6.toUInt32 >>> ((nI 8).toUInt32 &&& Int32.toUInt32 31)).toInt32 := ⟨_, rfl⟩
  refine g_iushr C dJ6_bitCount_0f7a4_38 eyq7.symm ?_
  refine g_iadd C dJ6_bitCount_0f7a4_39 ?_
  refine g_nm (fun yq8 eyq8 => ?_)
  refine g_istore_n C (lv' := [(0, .int yq8)]) dJ6_bitCount_0f7a4_40 rfl (by decide) rfl ?_
  refine g_iload_n C dJ6_bitCount_0f7a4_41 rfl 0 rfl ?_
  refine g_iload_n C dJ6_bitCount_0f7a4_42 rfl 0 rfl ?_
  refine g_bipush C (nI 16) dJ6_bitCount_0f7a4_43 (by decide) ?_
  obtain ⟨yq9, eyq9⟩ : ∃ z : Int32, z = (yq8.toUInt32 >>> ((nI 16).toUInt32 &&& Int32.toUInt32 31)).toInt32 := ⟨_, rfl⟩
  refine g_iushr C dJ6_bitCount_0f7a4_45 eyq9.symm ?_
  refine g_iadd C dJ6_bitCount_0f7a4_46 ?_
  refine g_nm (fun yq10 eyq10 => ?_)
  refine g_istore_n C (lv' := [(0, .int yq10)]) dJ6_bitCount_0f7a4_47 rfl (by decide) rfl ?_
  refine g_iload_n C dJ6_bitCount_0f7a4_48 rfl 0 rfl ?_
  refine g_bipush C (nI 63) dJ6_bitCount_0f7a4_49 (by decide) ?_
  refine g_iand C dJ6_bitCount_0f7a4_51 ?_
  exact g_iret C X dJ6_bitCount_0f7a4_52 (⟨by subst_vars; rfl, rfl⟩)

set_option maxHeartbeats 4000000 in
set_option maxRecDepth 100000 in
theorem kX10_hasPerson (l : Launch) (E : EX) (t0 t1 t2 t3 n m : Nat) (p : Int32)  : M l E yX10_hasPerson wsX10_hasPerson { frames := 0, cells := 0, slots := 0, locals := 0 } 0 0 [.ref t0, .int p] [(t0, oB 10 [.ref t1, .ref t2, .ref t3, .int (nI n), .int (nI m)])] (is1 (some (.int (bI (inR p n)))) [(t0, oB 10 [.ref t1, .ref t2, .ref t3, .int (nI n), .int (nI m)])]) := by
  refine M.ofG (cc := cX10_hasPerson) (maxL := 2) (ret := (some .boolean)) (lv := [(0, .ref t0), (1, .int p)]) (own := RX10) (by decide) rfl rfl (Nat.le_of_ble_eq_true rfl) rfl ?_
  intro K C X _
  have i10 : ∀ w ∈ wsX100, w ∈ wsX10_hasPerson := by decide +kernel
  refine g_iload_n C dX10_hasPerson_0 rfl 1 rfl ?_
  refine g_if_lt C 16 dX10_hasPerson_1 (by decide) (fun cq1 => ?_) (fun cq1 => ?_)
  · refine g_iconst C (nI 0) dX10_hasPerson_16 (by decide) ?_
    exact g_zret C X rfl dX10_hasPerson_17 (⟨congrArg (fun z => some (Value.int z)) (bI_f (by simp [cq1])).symm, rfl⟩)
  · refine g_iload_n C dX10_hasPerson_4 rfl 1 rfl ?_
    refine g_aload_n C dX10_hasPerson_5 rfl 0 rfl ?_
    refine g_get C i10 0 rfl rfl 3 (by decide) (List.mem_of_getElem? (i := 1) rfl) rfl rfl dX10_hasPerson_6 ?_
    refine g_icmp_ge C 16 dX10_hasPerson_9 (by decide) (fun cq2 => ?_) (fun cq2 => ?_)
    · refine g_iconst C (nI 0) dX10_hasPerson_16 (by decide) ?_
      exact g_zret C X rfl dX10_hasPerson_17 (⟨congrArg (fun z => some (Value.int z)) (bI_f (by simp [cq1, cq2])).symm, rfl⟩)
    · refine g_iconst C (nI 1) dX10_hasPerson_12 (by decide) ?_
      refine g_goto C 17 dX10_hasPerson_13 (by decide) ?_
      exact g_zret C X rfl dX10_hasPerson_17 (⟨congrArg (fun z => some (Value.int z)) (bI_t (⟨cq1, cq2⟩)).symm, rfl⟩)

set_option maxHeartbeats 4000000 in
set_option maxRecDepth 100000 in
theorem kX10_hasPillow (l : Launch) (E : EX) (t0 t1 t2 t3 n m : Nat) (p : Int32)  : M l E yX10_hasPillow wsX10_hasPillow { frames := 0, cells := 0, slots := 0, locals := 0 } 0 0 [.ref t0, .int p] [(t0, oB 10 [.ref t1, .ref t2, .ref t3, .int (nI n), .int (nI m)])] (is1 (some (.int (bI (inR p m)))) [(t0, oB 10 [.ref t1, .ref t2, .ref t3, .int (nI n), .int (nI m)])]) := by
  refine M.ofG (cc := cX10_hasPillow) (maxL := 2) (ret := (some .boolean)) (lv := [(0, .ref t0), (1, .int p)]) (own := RX10) (by decide) rfl rfl (Nat.le_of_ble_eq_true rfl) rfl ?_
  intro K C X _
  have i10 : ∀ w ∈ wsX100, w ∈ wsX10_hasPillow := by decide +kernel
  refine g_iload_n C dX10_hasPillow_0 rfl 1 rfl ?_
  refine g_if_lt C 16 dX10_hasPillow_1 (by decide) (fun cq1 => ?_) (fun cq1 => ?_)
  · refine g_iconst C (nI 0) dX10_hasPillow_16 (by decide) ?_
    exact g_zret C X rfl dX10_hasPillow_17 (⟨congrArg (fun z => some (Value.int z)) (bI_f (by simp [cq1])).symm, rfl⟩)
  · refine g_iload_n C dX10_hasPillow_4 rfl 1 rfl ?_
    refine g_aload_n C dX10_hasPillow_5 rfl 0 rfl ?_
    refine g_get C i10 0 rfl rfl 4 (by decide) (List.mem_of_getElem? (i := 1) rfl) rfl rfl dX10_hasPillow_6 ?_
    refine g_icmp_ge C 16 dX10_hasPillow_9 (by decide) (fun cq2 => ?_) (fun cq2 => ?_)
    · refine g_iconst C (nI 0) dX10_hasPillow_16 (by decide) ?_
      exact g_zret C X rfl dX10_hasPillow_17 (⟨congrArg (fun z => some (Value.int z)) (bI_f (by simp [cq1, cq2])).symm, rfl⟩)
    · refine g_iconst C (nI 1) dX10_hasPillow_12 (by decide) ?_
      refine g_goto C 17 dX10_hasPillow_13 (by decide) ?_
      exact g_zret C X rfl dX10_hasPillow_17 (⟨congrArg (fun z => some (Value.int z)) (bI_t (⟨cq1, cq2⟩)).symm, rfl⟩)

set_option maxHeartbeats 4000000 in
set_option maxRecDepth 100000 in
theorem kX10_begin (l : Launch) (E : EX) (t0 t1 t2 t3 n m : Nat) (cl : Nat → Int32)  : M l E yX10_begin wsX10_begin { frames := 1, cells := 0, slots := 0, locals := 23 } 0 0 [.ref t0] [(t0, oB 10 [.ref t1, .ref t2, .ref t3, .int (nI n), .int (nI m)]), (t3, iA E 7 cl)] (is1 none [(t0, oB 10 [.ref t1, .ref t2, .ref t3, .int (nI 0), .int (nI 3)]), (t3, iA E 7 (filA cl (nI 0) 7))]) := by
  refine M.ofG (cc := cX10_begin) (maxL := 1) (ret := none) (lv := [(0, .ref t0)]) (own := RX10) (by decide) rfl rfl (Nat.le_of_ble_eq_true rfl) rfl ?_
  intro K C X _
  have i10 : ∀ w ∈ wsX100, w ∈ wsX10_begin := by decide +kernel
  refine g_aload_n C dX10_begin_0 rfl 0 rfl ?_
  refine g_get C i10 0 rfl rfl 2 (by decide) (List.mem_of_getElem? (i := 1) rfl) rfl rfl dX10_begin_1 ?_
  refine g_iconst C (nI 0) dX10_begin_4 (by decide) ?_
  refine g_callS C (rest := []) (n := 2) (kJ7_fill_53178 l E t3 7 cl (nI 0) (by omega)) gX10_begin_J7_fill_53178 rfl ⟨rfl, rfl⟩ (by decide) (Nat.le_of_ble_eq_true rfl) rfl (by decide +kernel) rfl dX10_begin_5 [1] [0] rfl rfl ?_
  refine g_is1 (ws2 := [(t0, oB 10 [.ref t1, .ref t2, .ref t3, .int (nI n), .int (nI m)]), (t3, iA E 7 (filA cl (nI 0) 7))]) (st2 := []) [0, 1] rfl rfl rfl ?_
  refine g_aload_n C dX10_begin_8 rfl 0 rfl ?_
  refine g_iconst C (nI 0) dX10_begin_9 (by decide) ?_
  refine g_put C i10 tyX10 tyX10_ok nmX10 0 rfl rfl 3 (by decide) (List.mem_of_getElem? (i := 2) rfl) rfl rfl rfl rfl rfl (Nat.le_of_ble_eq_true rfl) dX10_begin_10 (ws' := [(t0, oB 10 [.ref t1, .ref t2, .ref t3, .int (nI 0), .int (nI m)]), (t3, iA E 7 (filA cl (nI 0) 7))]) rfl ?_
  refine g_aload_n C dX10_begin_13 rfl 0 rfl ?_
  refine g_iconst C (nI 3) dX10_begin_14 (by decide) ?_
  refine g_put C i10 tyX10 tyX10_ok nmX10 0 rfl rfl 4 (by decide) (List.mem_of_getElem? (i := 3) rfl) rfl rfl rfl rfl rfl (Nat.le_of_ble_eq_true rfl) dX10_begin_15 (ws' := [(t0, oB 10 [.ref t1, .ref t2, .ref t3, .int (nI 0), .int (nI 3)]), (t3, iA E 7 (filA cl (nI 0) 7))]) rfl ?_
  exact g_vret C X dX10_begin_18 (⟨rfl, rfl⟩)

set_option maxHeartbeats 4000000 in
set_option maxRecDepth 100000 in
theorem kX10_addPerson (l : Launch) (E : EX) (t0 t1 t2 t3 n m : Nat) (kn ta : Nat → Int32) (x y : Int32) (hn : n < 6) : M l E yX10_addPerson wsX10_addPerson { frames := 0, cells := 0, slots := 0, locals := 0 } 0 0 [.ref t0, .int x, .int y] [(t0, oB 10 [.ref t1, .ref t2, .ref t3, .int (nI n), .int (nI m)]), (t1, iA E 6 kn), (t2, iA E 6 ta)] (is1 none [(t0, oB 10 [.ref t1, .ref t2, .ref t3, .int (nI (n + 1)), .int (nI m)]), (t1, iA E 6 (upd kn n x)), (t2, iA E 6 (upd ta n y))]) := by
  refine M.ofG (cc := cX10_addPerson) (maxL := 3) (ret := none) (lv := [(0, .ref t0), (1, .int x), (2, .int y)]) (own := RX10) (by decide) rfl rfl (Nat.le_of_ble_eq_true rfl) rfl ?_
  intro K C X _
  have i10 : ∀ w ∈ wsX100, w ∈ wsX10_addPerson := by decide +kernel
  refine g_aload_n C dX10_addPerson_0 rfl 0 rfl ?_
  refine g_get C i10 0 rfl rfl 3 (by decide) (List.mem_of_getElem? (i := 1) rfl) rfl rfl dX10_addPerson_1 ?_
  refine g_bipush C (nI 6) dX10_addPerson_4 (by decide) ?_
  refine g_icmp_geN C 39 dX10_addPerson_6 (by decide) (by omega) (by omega) (fun cq1 => ?_) (fun cq1 => ?_)
  · exfalso; omega
  · refine g_aload_n C dX10_addPerson_9 rfl 0 rfl ?_
    refine g_get C i10 0 rfl rfl 0 (by decide) (List.mem_of_getElem? (i := 2) rfl) rfl rfl dX10_addPerson_10 ?_
    refine g_aload_n C dX10_addPerson_13 rfl 0 rfl ?_
    refine g_get C i10 0 rfl rfl 3 (by decide) (List.mem_of_getElem? (i := 1) rfl) rfl rfl dX10_addPerson_14 ?_
    refine g_iload_n C dX10_addPerson_17 rfl 1 rfl ?_
    refine g_iast C (ws' := fun fq2 => [(t0, oB 10 [.ref t1, .ref t2, .ref t3, .int (nI n), .int (nI m)]), (t1, iA E 6 fq2), (t2, iA E 6 ta)]) 1 rfl (by omega) (by decide) dX10_addPerson_18 (fun _ _ => rfl) (fun fq2 efq2 => ?_)
    refine g_aload_n C dX10_addPerson_19 rfl 0 rfl ?_
    refine g_get C i10 0 rfl rfl 1 (by decide) (List.mem_of_getElem? (i := 3) rfl) rfl rfl dX10_addPerson_20 ?_
    refine g_aload_n C dX10_addPerson_23 rfl 0 rfl ?_
    refine g_get C i10 0 rfl rfl 3 (by decide) (List.mem_of_getElem? (i := 1) rfl) rfl rfl dX10_addPerson_24 ?_
    refine g_iload_n C dX10_addPerson_27 rfl 2 rfl ?_
    refine g_iast C (ws' := fun fq3 => [(t0, oB 10 [.ref t1, .ref t2, .ref t3, .int (nI n), .int (nI m)]), (t1, iA E 6 fq2), (t2, iA E 6 fq3)]) 2 rfl (by omega) (by decide) dX10_addPerson_28 (fun _ _ => rfl) (fun fq3 efq3 => ?_)
    refine g_aload_n C dX10_addPerson_29 rfl 0 rfl ?_
    refine g_dup C dX10_addPerson_30 rfl ?_
    refine g_get C i10 0 rfl rfl 3 (by decide) (List.mem_of_getElem? (i := 1) rfl) rfl rfl dX10_addPerson_31 ?_
    refine g_iconst C (nI 1) dX10_addPerson_34 (by decide) ?_
    refine g_iaddN C dX10_addPerson_35 ?_
    refine g_put C i10 tyX10 tyX10_ok nmX10 0 rfl rfl 3 (by decide) (List.mem_of_getElem? (i := 1) rfl) rfl rfl rfl rfl rfl (Nat.le_of_ble_eq_true rfl) dX10_addPerson_36 (ws' := [(t0, oB 10 [.ref t1, .ref t2, .ref t3, .int (nI (n + 1)), .int (nI m)]), (t1, iA E 6 fq2), (t2, iA E 6 fq3)]) rfl ?_
    exact g_vret C X dX10_addPerson_39 (⟨rfl, by simp [cq1, efq2, efq3]⟩)

set_option maxHeartbeats 4000000 in
set_option maxRecDepth 100000 in
theorem kX10_addClash (l : Launch) (E : EX) (t0 t1 t2 t3 n m : Nat) (cl : Nat → Int32) (a b : Nat) (ha : a < 7) (hb : b < 7) : M l E yX10_addClash wsX10_addClash { frames := 0, cells := 0, slots := 0, locals := 0 } 0 0 [.ref t0, .int (nI a), .int (nI b)] [(t0, oB 10 [.ref t1, .ref t2, .ref t3, .int (nI n), .int (nI m)]), (t3, iA E 7 cl)] (is1 none [(t0, oB 10 [.ref t1, .ref t2, .ref t3, .int (nI n), .int (nI m)]), (t3, iA E 7 (clA cl a b))]) := by
  refine M.ofG (cc := cX10_addClash) (maxL := 3) (ret := none) (lv := [(0, .ref t0), (1, .int (nI a)), (2, .int (nI b))]) (own := RX10) (by decide) rfl rfl (Nat.le_of_ble_eq_true rfl) rfl ?_
  intro K C X _
  have i10 : ∀ w ∈ wsX100, w ∈ wsX10_addClash := by decide +kernel
  refine g_aload_n C dX10_addClash_0 rfl 0 rfl ?_
  refine g_get C i10 0 rfl rfl 2 (by decide) (List.mem_of_getElem? (i := 1) rfl) rfl rfl dX10_addClash_1 ?_
  refine g_iload_n C dX10_addClash_4 rfl 1 rfl ?_
  refine g_dup2 C dX10_addClash_5 rfl rfl ?_
  refine g_iald C 1 rfl (by omega) (by decide) dX10_addClash_6 ?_
  refine g_iconst C (nI 1) dX10_addClash_7 (by decide) ?_
  refine g_iload_n C dX10_addClash_8 rfl 2 rfl ?_
  refine g_ishl1 C dX10_addClash_9 (by omega) ?_
  refine g_ior C dX10_addClash_10 ?_
  refine g_iast C (ws' := fun fq1 => [(t0, oB 10 [.ref t1, .ref t2, .ref t3, .int (nI n), .int (nI m)]), (t3, iA E 7 fq1)]) 1 rfl (by omega) (by decide) dX10_addClash_11 (fun _ _ => rfl) (fun fq1 efq1 => ?_)
  refine g_aload_n C dX10_addClash_12 rfl 0 rfl ?_
  refine g_get C i10 0 rfl rfl 2 (by decide) (List.mem_of_getElem? (i := 1) rfl) rfl rfl dX10_addClash_13 ?_
  refine g_iload_n C dX10_addClash_16 rfl 2 rfl ?_
  refine g_dup2 C dX10_addClash_17 rfl rfl ?_
  refine g_iald C 1 rfl (by omega) (by decide) dX10_addClash_18 ?_
  refine g_iconst C (nI 1) dX10_addClash_19 (by decide) ?_
  refine g_iload_n C dX10_addClash_20 rfl 1 rfl ?_
  refine g_ishl1 C dX10_addClash_21 (by omega) ?_
  refine g_ior C dX10_addClash_22 ?_
  refine g_iast C (ws' := fun fq2 => [(t0, oB 10 [.ref t1, .ref t2, .ref t3, .int (nI n), .int (nI m)]), (t3, iA E 7 fq2)]) 1 rfl (by omega) (by decide) dX10_addClash_23 (fun _ _ => rfl) (fun fq2 efq2 => ?_)
  exact g_vret C X dX10_addClash_24 (⟨rfl, by rw [efq2, efq1, clA]⟩)

set_option maxHeartbeats 4000000 in
set_option maxRecDepth 100000 in
theorem kX10_knownTo (l : Launch) (E : EX) (t0 t1 t2 t3 n m : Nat) (kn : Nat → Int32) (x : Int32) (hn : n ≤ 6) : M l E yX10_knownTo wsX10_knownTo { frames := 0, cells := 0, slots := 0, locals := 0 } 0 0 [.ref t0, .int x] [(t0, oB 10 [.ref t1, .ref t2, .ref t3, .int (nI n), .int (nI m)]), (t1, iA E 6 kn)] (is1 (some (.int (knT kn x n))) [(t0, oB 10 [.ref t1, .ref t2, .ref t3, .int (nI n), .int (nI m)]), (t1, iA E 6 kn)]) := by
  refine M.ofG (cc := cX10_knownTo) (maxL := 4) (ret := (some .int)) (lv := [(0, .ref t0), (1, .int x)]) (own := RX10) (by decide) rfl rfl (Nat.le_of_ble_eq_true rfl) rfl ?_
  intro K C X _
  have i10 : ∀ w ∈ wsX100, w ∈ wsX10_knownTo := by decide +kernel
  refine g_iconst C (nI 0) dX10_knownTo_0 (by decide) ?_
  refine g_istore_n C (lv' := [(2, .int (nI 0)), (0, .ref t0), (1, .int x)]) dX10_knownTo_1 rfl (by decide) rfl ?_
  refine g_iconst C (nI 0) dX10_knownTo_2 (by decide) ?_
  refine g_istore_n C (lv' := [(3, .int (nI 0)), (2, .int (nI 0)), (0, .ref t0), (1, .int x)]) dX10_knownTo_3 rfl (by decide) rfl ?_
  have L4 : ∀ (zz k : Nat) (a : Int32), k + zz = n + 1 → k ≤ n → (a = knT kn x k) → G K 0 0 4 [(0, .ref t0), (1, .int x), (2, .int a), (3, .int (nI k))] [] [(t0, oB 10 [.ref t1, .ref t2, .ref t3, .int (nI n), .int (nI m)]), (t1, iA E 6 kn)] := by
    intro zz
    induction zz with
    | zero => intro k a hL4 gL4; exfalso; omega
    | succ zz ihL4 =>
      intro k a hL4 gL4 ha
      refine g_iload_n C dX10_knownTo_4 rfl 3 rfl ?_
      refine g_aload_n C dX10_knownTo_5 rfl 0 rfl ?_
      refine g_get C i10 0 rfl rfl 3 (by decide) (List.mem_of_getElem? (i := 1) rfl) rfl rfl dX10_knownTo_6 ?_
      refine g_icmp_geN C 35 dX10_knownTo_9 (by decide) (by omega) (by omega) (fun cq1 => ?_) (fun cq1 => ?_)
      · have hk : k = n := by omega
        refine g_iload_n C dX10_knownTo_35 rfl 2 rfl ?_
        exact g_iret C X dX10_knownTo_36 (⟨by rw [ha, hk], rfl⟩)
      · refine g_iload_n C dX10_knownTo_12 rfl 1 rfl ?_
        refine g_iload_n C dX10_knownTo_13 rfl 3 rfl ?_
        refine g_ishr C dX10_knownTo_14 ?_
        refine g_iconst C (nI 1) dX10_knownTo_15 (by decide) ?_
        refine g_iand C dX10_knownTo_16 ?_
        refine g_if_eq C 29 dX10_knownTo_17 (by decide) (fun cq2 => ?_) (fun cq2 => ?_)
        · refine g_iincN C (lv' := [(3, .int (nI (k + 1))), (0, .ref t0), (1, .int x), (2, .int a)]) dX10_knownTo_29 3 rfl (by decide) rfl ?_
          refine g_goto C 4 dX10_knownTo_32 (by decide) ?_
          refine g_sub (lv' := [(0, .ref t0), (1, .int x), (2, .int a), (3, .int (nI (k + 1)))]) [1, 2, 3, 0] rfl ?_
          exact ihL4 (k + 1) a (by omega) (by omega) (by first | omega | (simp [knT, ha, cq1, cq2]; done))
        · refine g_iload_n C dX10_knownTo_20 rfl 2 rfl ?_
          refine g_aload_n C dX10_knownTo_21 rfl 0 rfl ?_
          refine g_get C i10 0 rfl rfl 0 (by decide) (List.mem_of_getElem? (i := 2) rfl) rfl rfl dX10_knownTo_22 ?_
          refine g_iload_n C dX10_knownTo_25 rfl 3 rfl ?_
          refine g_iald C 1 rfl (by omega) (by decide) dX10_knownTo_26 ?_
          refine g_ior C dX10_knownTo_27 ?_
          refine g_nm (fun yq3 eyq3 => ?_)
          refine g_istore_n C (lv' := [(2, .int yq3), (0, .ref t0), (1, .int x), (3, .int (nI k))]) dX10_knownTo_28 rfl (by decide) rfl ?_
          refine g_iincN C (lv' := [(3, .int (nI (k + 1))), (2, .int yq3), (0, .ref t0), (1, .int x)]) dX10_knownTo_29 3 rfl (by decide) rfl ?_
          refine g_goto C 4 dX10_knownTo_32 (by decide) ?_
          refine g_sub (lv' := [(0, .ref t0), (1, .int x), (2, .int yq3), (3, .int (nI (k + 1)))]) [2, 3, 1, 0] rfl ?_
          exact ihL4 (k + 1) yq3 (by omega) (by omega) (by first | omega | (simp [knT, ha, cq1, cq2, eyq3]; done))
  refine g_sub (lv' := [(0, .ref t0), (1, .int x), (2, .int (nI 0)), (3, .int (nI 0))]) [2, 3, 1, 0] rfl ?_
  exact L4 (n + 1 - 0) 0 (nI 0) (by omega) (by omega) (by first | rfl | omega | (simp [knT]; done))

set_option maxHeartbeats 4000000 in
set_option maxRecDepth 100000 in
theorem kX10_knownToOne (l : Launch) (E : EX) (t0 t1 t2 t3 n m : Nat) (kn : Nat → Int32) (hn : n ≤ 6) : M l E yX10_knownToOne wsX10_knownToOne { frames := 0, cells := 0, slots := 0, locals := 0 } 0 0 [.ref t0] [(t0, oB 10 [.ref t1, .ref t2, .ref t3, .int (nI n), .int (nI m)]), (t1, iA E 6 kn)] (is1 (some (.int ((kn1 kn n).1 &&& ((kn1 kn n).2 ^^^ (-1))))) [(t0, oB 10 [.ref t1, .ref t2, .ref t3, .int (nI n), .int (nI m)]), (t1, iA E 6 kn)]) := by
  refine M.ofG (cc := cX10_knownToOne) (maxL := 4) (ret := (some .int)) (lv := [(0, .ref t0)]) (own := RX10) (by decide) rfl rfl (Nat.le_of_ble_eq_true rfl) rfl ?_
  intro K C X _
  have i10 : ∀ w ∈ wsX100, w ∈ wsX10_knownToOne := by decide +kernel
  refine g_iconst C (nI 0) dX10_knownToOne_0 (by decide) ?_
  refine g_istore_n C (lv' := [(1, .int (nI 0)), (0, .ref t0)]) dX10_knownToOne_1 rfl (by decide) rfl ?_
  refine g_iconst C (nI 0) dX10_knownToOne_2 (by decide) ?_
  refine g_istore_n C (lv' := [(2, .int (nI 0)), (1, .int (nI 0)), (0, .ref t0)]) dX10_knownToOne_3 rfl (by decide) rfl ?_
  refine g_iconst C (nI 0) dX10_knownToOne_4 (by decide) ?_
  refine g_istore_n C (lv' := [(3, .int (nI 0)), (2, .int (nI 0)), (1, .int (nI 0)), (0, .ref t0)]) dX10_knownToOne_5 rfl (by decide) rfl ?_
  have L6 : ∀ (zz k : Nat) (a : Int32) (b : Int32), k + zz = n + 1 → k ≤ n → (a = (kn1 kn k).1) → (b = (kn1 kn k).2) → G K 0 0 6 [(0, .ref t0), (1, .int a), (2, .int b), (3, .int (nI k))] [] [(t0, oB 10 [.ref t1, .ref t2, .ref t3, .int (nI n), .int (nI m)]), (t1, iA E 6 kn)] := by
    intro zz
    induction zz with
    | zero => intro k a b hL6 gL6; exfalso; omega
    | succ zz ihL6 =>
      intro k a b hL6 gL6 ha hb
      refine g_iload_n C dX10_knownToOne_6 rfl 3 rfl ?_
      refine g_aload_n C dX10_knownToOne_7 rfl 0 rfl ?_
      refine g_get C i10 0 rfl rfl 3 (by decide) (List.mem_of_getElem? (i := 1) rfl) rfl rfl dX10_knownToOne_8 ?_
      refine g_icmp_geN C 40 dX10_knownToOne_11 (by decide) (by omega) (by omega) (fun cq1 => ?_) (fun cq1 => ?_)
      · have hk : k = n := by omega
        refine g_iload_n C dX10_knownToOne_40 rfl 1 rfl ?_
        refine g_iload_n C dX10_knownToOne_41 rfl 2 rfl ?_
        refine g_iconst C ((-1)) dX10_knownToOne_42 (by decide) ?_
        refine g_ixor C dX10_knownToOne_43 ?_
        refine g_iand C dX10_knownToOne_44 ?_
        exact g_iret C X dX10_knownToOne_45 (⟨by rw [ha, hb, hk], rfl⟩)
      · refine g_iload_n C dX10_knownToOne_14 rfl 2 rfl ?_
        refine g_iload_n C dX10_knownToOne_15 rfl 1 rfl ?_
        refine g_aload_n C dX10_knownToOne_16 rfl 0 rfl ?_
        refine g_get C i10 0 rfl rfl 0 (by decide) (List.mem_of_getElem? (i := 2) rfl) rfl rfl dX10_knownToOne_17 ?_
        refine g_iload_n C dX10_knownToOne_20 rfl 3 rfl ?_
        refine g_iald C 1 rfl (by omega) (by decide) dX10_knownToOne_21 ?_
        refine g_iand C dX10_knownToOne_22 ?_
        refine g_ior C dX10_knownToOne_23 ?_
        refine g_nm (fun yq2 eyq2 => ?_)
        refine g_istore_n C (lv' := [(2, .int yq2), (0, .ref t0), (1, .int a), (3, .int (nI k))]) dX10_knownToOne_24 rfl (by decide) rfl ?_
        refine g_iload_n C dX10_knownToOne_25 rfl 2 rfl ?_
        refine g_aload_n C dX10_knownToOne_26 rfl 1 rfl ?_
        refine g_get C i10 0 rfl rfl 0 (by decide) (List.mem_of_getElem? (i := 2) rfl) rfl rfl dX10_knownToOne_27 ?_
        refine g_iload_n C dX10_knownToOne_30 rfl 3 rfl ?_
        refine g_iald C 1 rfl (by omega) (by decide) dX10_knownToOne_31 ?_
        refine g_ior C dX10_knownToOne_32 ?_
        refine g_nm (fun yq3 eyq3 => ?_)
        refine g_istore_n C (lv' := [(1, .int yq3), (2, .int yq2), (0, .ref t0), (3, .int (nI k))]) dX10_knownToOne_33 rfl (by decide) rfl ?_
        refine g_iincN C (lv' := [(3, .int (nI (k + 1))), (1, .int yq3), (2, .int yq2), (0, .ref t0)]) dX10_knownToOne_34 3 rfl (by decide) rfl ?_
        refine g_goto C 6 dX10_knownToOne_37 (by decide) ?_
        refine g_sub (lv' := [(0, .ref t0), (1, .int yq3), (2, .int yq2), (3, .int (nI (k + 1)))]) [3, 1, 2, 0] rfl ?_
        exact ihL6 (k + 1) yq3 yq2 (by omega) (by omega) (by first | omega | (simp [kn1, ha, hb, cq1, eyq2, eyq3]; done)) (by first | omega | (simp [kn1, ha, hb, cq1, eyq2, eyq3]; done))
  refine g_sub (lv' := [(0, .ref t0), (1, .int (nI 0)), (2, .int (nI 0)), (3, .int (nI 0))]) [3, 2, 1, 0] rfl ?_
  exact L6 (n + 1 - 0) 0 (nI 0) (nI 0) (by omega) (by omega) (by first | rfl | omega | (simp [kn1]; done)) (by first | rfl | omega | (simp [kn1]; done))

set_option maxHeartbeats 4000000 in
set_option maxRecDepth 100000 in
theorem kX10_clashesWithin (l : Launch) (E : EX) (t0 t1 t2 t3 n m : Nat) (cl : Nat → Int32) (x : Int32)  : M l E yX10_clashesWithin wsX10_clashesWithin { frames := 1, cells := 0, slots := 0, locals := 20 } 0 0 [.ref t0, .int x] [(t0, oB 10 [.ref t1, .ref t2, .ref t3, .int (nI n), .int (nI m)]), (t3, iA E 7 cl)] (is1 (some (.int (clW cl x 7 / nI 2))) [(t0, oB 10 [.ref t1, .ref t2, .ref t3, .int (nI n), .int (nI m)]), (t3, iA E 7 cl)]) := by
  refine M.ofG (cc := cX10_clashesWithin) (maxL := 4) (ret := (some .int)) (lv := [(0, .ref t0), (1, .int x)]) (own := RX10) (by decide) rfl rfl (Nat.le_of_ble_eq_true rfl) rfl ?_
  intro K C X _
  have i10 : ∀ w ∈ wsX100, w ∈ wsX10_clashesWithin := by decide +kernel
  refine g_iconst C (nI 0) dX10_clashesWithin_0 (by decide) ?_
  refine g_istore_n C (lv' := [(2, .int (nI 0)), (0, .ref t0), (1, .int x)]) dX10_clashesWithin_1 rfl (by decide) rfl ?_
  refine g_iconst C (nI 0) dX10_clashesWithin_2 (by decide) ?_
  refine g_istore_n C (lv' := [(3, .int (nI 0)), (2, .int (nI 0)), (0, .ref t0), (1, .int x)]) dX10_clashesWithin_3 rfl (by decide) rfl ?_
  have L4 : ∀ (zz k : Nat) (a : Int32), k + zz = 7 + 1 → k ≤ 7 → (a = clW cl x k) → G K 0 0 4 [(0, .ref t0), (1, .int x), (2, .int a), (3, .int (nI k))] [] [(t0, oB 10 [.ref t1, .ref t2, .ref t3, .int (nI n), .int (nI m)]), (t3, iA E 7 cl)] := by
    intro zz
    induction zz with
    | zero => intro k a hL4 gL4; exfalso; omega
    | succ zz ihL4 =>
      intro k a hL4 gL4 ha
      refine g_iload_n C dX10_clashesWithin_4 rfl 3 rfl ?_
      refine g_bipush C (nI 7) dX10_clashesWithin_5 (by decide) ?_
      refine g_icmp_geN C 38 dX10_clashesWithin_7 (by decide) (by omega) (by omega) (fun cq1 => ?_) (fun cq1 => ?_)
      · have hk : k = 7 := by omega
        refine g_iload_n C dX10_clashesWithin_38 rfl 2 rfl ?_
        refine g_iconst C (nI 2) dX10_clashesWithin_39 (by decide) ?_
        refine g_idiv C dX10_clashesWithin_40 (by decide) ?_
        exact g_iret C X dX10_clashesWithin_41 (⟨by rw [ha, hk], rfl⟩)
      · refine g_iload_n C dX10_clashesWithin_10 rfl 1 rfl ?_
        refine g_iload_n C dX10_clashesWithin_11 rfl 3 rfl ?_
        refine g_ishr C dX10_clashesWithin_12 ?_
        refine g_iconst C (nI 1) dX10_clashesWithin_13 (by decide) ?_
        refine g_iand C dX10_clashesWithin_14 ?_
        refine g_if_eq C 32 dX10_clashesWithin_15 (by decide) (fun cq2 => ?_) (fun cq2 => ?_)
        · refine g_iincN C (lv' := [(3, .int (nI (k + 1))), (0, .ref t0), (1, .int x), (2, .int a)]) dX10_clashesWithin_32 3 rfl (by decide) rfl ?_
          refine g_goto C 4 dX10_clashesWithin_35 (by decide) ?_
          refine g_sub (lv' := [(0, .ref t0), (1, .int x), (2, .int a), (3, .int (nI (k + 1)))]) [1, 2, 3, 0] rfl ?_
          exact ihL4 (k + 1) a (by omega) (by omega) (by first | omega | (simp [clW, ha, cq1, cq2]; done))
        · refine g_iload_n C dX10_clashesWithin_18 rfl 2 rfl ?_
          refine g_aload_n C dX10_clashesWithin_19 rfl 0 rfl ?_
          refine g_get C i10 0 rfl rfl 2 (by decide) (List.mem_of_getElem? (i := 1) rfl) rfl rfl dX10_clashesWithin_20 ?_
          refine g_iload_n C dX10_clashesWithin_23 rfl 3 rfl ?_
          refine g_iald C 1 rfl (by omega) (by decide) dX10_clashesWithin_24 ?_
          refine g_iload_n C dX10_clashesWithin_25 rfl 1 rfl ?_
          refine g_iand C dX10_clashesWithin_26 ?_
          refine g_callS C (rest := [.int a]) (n := 1) (kJ6_bitCount_0f7a4 l E ((cl k) &&& x) ) gX10_clashesWithin_J6_bitCount_0f7a4 rfl ⟨rfl, rfl⟩ (by decide) (Nat.le_of_ble_eq_true rfl) rfl (by decide +kernel) rfl dX10_clashesWithin_27 [] [0, 1] rfl rfl ?_
          refine g_is1 (ws2 := [(t0, oB 10 [.ref t1, .ref t2, .ref t3, .int (nI n), .int (nI m)]), (t3, iA E 7 cl)]) (st2 := [.int (bc ((cl k) &&& x)), .int a]) [0, 1] rfl rfl rfl ?_
          refine g_iadd C dX10_clashesWithin_30 ?_
          refine g_nm (fun yq3 eyq3 => ?_)
          refine g_istore_n C (lv' := [(2, .int yq3), (0, .ref t0), (1, .int x), (3, .int (nI k))]) dX10_clashesWithin_31 rfl (by decide) rfl ?_
          refine g_iincN C (lv' := [(3, .int (nI (k + 1))), (2, .int yq3), (0, .ref t0), (1, .int x)]) dX10_clashesWithin_32 3 rfl (by decide) rfl ?_
          refine g_goto C 4 dX10_clashesWithin_35 (by decide) ?_
          refine g_sub (lv' := [(0, .ref t0), (1, .int x), (2, .int yq3), (3, .int (nI (k + 1)))]) [2, 3, 1, 0] rfl ?_
          exact ihL4 (k + 1) yq3 (by omega) (by omega) (by first | omega | (simp [clW, ha, cq1, cq2, eyq3]; done))
  refine g_sub (lv' := [(0, .ref t0), (1, .int x), (2, .int (nI 0)), (3, .int (nI 0))]) [2, 3, 1, 0] rfl ?_
  exact L4 (7 + 1 - 0) 0 (nI 0) (by omega) (by omega) (by first | rfl | omega | (simp [clW]; done))

set_option maxHeartbeats 4000000 in
set_option maxRecDepth 100000 in
theorem kX10_thingAt (l : Launch) (E : EX) (x pl : Int32)  : M l E yX10_thingAt wsX10_thingAt { frames := 0, cells := 0, slots := 0, locals := 0 } 0 0 [.int x, .int pl] [] (is1 (some (.int (thAt x pl 7 0 (nI 0)))) []) := by
  refine M.ofG (cc := cX10_thingAt) (maxL := 4) (ret := (some .int)) (lv := [(0, .int x), (1, .int pl)]) (own := RX10) (by decide) rfl rfl (Nat.le_of_ble_eq_true rfl) rfl ?_
  intro K C X _
  refine g_iconst C (nI 0) dX10_thingAt_0 (by decide) ?_
  refine g_istore_n C (lv' := [(2, .int (nI 0)), (0, .int x), (1, .int pl)]) dX10_thingAt_1 rfl (by decide) rfl ?_
  refine g_iconst C (nI 0) dX10_thingAt_2 (by decide) ?_
  refine g_istore_n C (lv' := [(3, .int (nI 0)), (2, .int (nI 0)), (0, .int x), (1, .int pl)]) dX10_thingAt_3 rfl (by decide) rfl ?_
  have L4 : ∀ (zz k : Nat) (a : Int32), k + zz = 7 + 1 → k ≤ 7 → (thAt x pl (7 - k) k a = thAt x pl 7 0 (nI 0)) → G K 0 0 4 [(0, .int x), (1, .int pl), (2, .int a), (3, .int (nI k))] [] [] := by
    intro zz
    induction zz with
    | zero => intro k a hL4 gL4; exfalso; omega
    | succ zz ihL4 =>
      intro k a hL4 gL4 ha
      refine g_iload_n C dX10_thingAt_4 rfl 3 rfl ?_
      refine g_bipush C (nI 7) dX10_thingAt_5 (by decide) ?_
      refine g_icmp_geN C 34 dX10_thingAt_7 (by decide) (by omega) (by omega) (fun cq1 => ?_) (fun cq1 => ?_)
      · refine g_bipush C ((-9)) dX10_thingAt_34 (by decide) ?_
        exact g_iret C X dX10_thingAt_36 (⟨by rw [show 7 - k = 0 by omega, thAt] at ha; rw [← ha], rfl⟩)
      · refine g_iload_n C dX10_thingAt_10 rfl 0 rfl ?_
        refine g_iload_n C dX10_thingAt_11 rfl 3 rfl ?_
        refine g_ishr C dX10_thingAt_12 ?_
        refine g_iconst C (nI 1) dX10_thingAt_13 (by decide) ?_
        refine g_iand C dX10_thingAt_14 ?_
        refine g_if_eq C 28 dX10_thingAt_15 (by decide) (fun cq2 => ?_) (fun cq2 => ?_)
        · refine g_iincN C (lv' := [(3, .int (nI (k + 1))), (0, .int x), (1, .int pl), (2, .int a)]) dX10_thingAt_28 3 rfl (by decide) rfl ?_
          refine g_goto C 4 dX10_thingAt_31 (by decide) ?_
          refine g_sub (lv' := [(0, .int x), (1, .int pl), (2, .int a), (3, .int (nI (k + 1)))]) [1, 2, 3, 0] rfl ?_
          exact ihL4 (k + 1) a (by omega) (by omega) (by rw [show 7 - k = (7 - (k + 1)) + 1 by omega, thAt] at ha; simp only [cq1, cq2, if_true, if_false] at ha; first | exact ha | (rw [rfl]; exact ha))
        · refine g_iload_n C dX10_thingAt_18 rfl 2 rfl ?_
          refine g_iload_n C dX10_thingAt_19 rfl 1 rfl ?_
          refine g_icmp_ne C 25 dX10_thingAt_20 (by decide) (fun cq3 => ?_) (fun cq3 => ?_)
          · obtain ⟨yq4, eyq4⟩ : ∃ z : Int32, z = a + nI 1 := ⟨_, rfl⟩
            refine g_iinc C yq4 (lv' := [(2, .int yq4), (0, .int x), (1, .int pl), (3, .int (nI k))]) dX10_thingAt_25 2 rfl (by rw [eyq4]; rfl) (by decide) rfl ?_
            refine g_iincN C (lv' := [(3, .int (nI (k + 1))), (2, .int yq4), (0, .int x), (1, .int pl)]) dX10_thingAt_28 3 rfl (by decide) rfl ?_
            refine g_goto C 4 dX10_thingAt_31 (by decide) ?_
            refine g_sub (lv' := [(0, .int x), (1, .int pl), (2, .int yq4), (3, .int (nI (k + 1)))]) [2, 3, 1, 0] rfl ?_
            exact ihL4 (k + 1) yq4 (by omega) (by omega) (by rw [show 7 - k = (7 - (k + 1)) + 1 by omega, thAt] at ha; simp only [cq1, cq2, cq3, eyq4, if_true, if_false] at ha; first | exact ha | (rw [eyq4]; exact ha))
          · refine g_iload_n C dX10_thingAt_23 rfl 3 rfl ?_
            exact g_iret C X dX10_thingAt_24 (⟨by rw [show 7 - k = (7 - (k + 1)) + 1 by omega, thAt] at ha; simp only [cq1, cq2, cq3, if_true, if_false] at ha; rw [← ha]; try rfl, rfl⟩)
  refine g_sub (lv' := [(0, .int x), (1, .int pl), (2, .int (nI 0)), (3, .int (nI 0))]) [2, 3, 1, 0] rfl ?_
  exact L4 (7 + 1 - 0) 0 (nI 0) (by omega) (by omega) (rfl)

set_option maxHeartbeats 4000000 in
set_option maxRecDepth 100000 in
theorem kX10_thingSaid (l : Launch) (E : EX) (t0 t1 t2 t3 n m : Nat) (kn ta : Nat → Int32) (p : Nat) (z nt : Int32) (hp : p < 6) : M l E yX10_thingSaid wsX10_thingSaid { frames := 1, cells := 0, slots := 0, locals := 23 } 0 0 [.ref t0, .int (nI p), .int z, .int nt] [(t0, oB 10 [.ref t1, .ref t2, .ref t3, .int (nI n), .int (nI m)]), (t1, iA E 6 kn), (t2, iA E 6 ta)] (is1 (some (.int (sayS kn ta p z nt))) [(t0, oB 10 [.ref t1, .ref t2, .ref t3, .int (nI n), .int (nI m)]), (t1, iA E 6 kn), (t2, iA E 6 ta)]) := by
  refine M.ofG (cc := cX10_thingSaid) (maxL := 8) (ret := (some .int)) (lv := [(0, .ref t0), (1, .int (nI p)), (2, .int z), (3, .int nt)]) (own := RX10) (by decide) rfl rfl (Nat.le_of_ble_eq_true rfl) rfl ?_
  intro K C X _
  have i10 : ∀ w ∈ wsX100, w ∈ wsX10_thingSaid := by decide +kernel
  refine g_aload_n C dX10_thingSaid_0 rfl 0 rfl ?_
  refine g_get C i10 0 rfl rfl 0 (by decide) (List.mem_of_getElem? (i := 1) rfl) rfl rfl dX10_thingSaid_1 ?_
  refine g_iload_n C dX10_thingSaid_4 rfl 1 rfl ?_
  refine g_iald C 1 rfl (by omega) (by decide) dX10_thingSaid_5 ?_
  refine g_callS C (rest := []) (n := 1) (kJ6_bitCount_0f7a4 l E (kn p) ) gX10_thingSaid_J6_bitCount_0f7a4 rfl ⟨rfl, rfl⟩ (by decide) (Nat.le_of_ble_eq_true rfl) rfl (by decide +kernel) rfl dX10_thingSaid_6 [] [0, 1, 2] rfl rfl ?_
  refine g_is1 (ws2 := [(t0, oB 10 [.ref t1, .ref t2, .ref t3, .int (nI n), .int (nI m)]), (t1, iA E 6 kn), (t2, iA E 6 ta)]) (st2 := [.int (bc (kn p))]) [0, 1, 2] rfl rfl rfl ?_
  refine g_nm (fun yq1 eyq1 => ?_)
  refine g_istore C (lv' := [(4, .int yq1), (0, .ref t0), (1, .int (nI p)), (2, .int z), (3, .int nt)]) dX10_thingSaid_9 (by decide) rfl ?_
  refine g_ldc2 C (v := 7919) (List.mem_of_getElem? (i := 2) rfl) dX10_thingSaid_11 ?_
  refine g_iload_n C dX10_thingSaid_14 rfl 3 rfl ?_
  refine g_i2l C dX10_thingSaid_15 ?_
  refine g_lmul C dX10_thingSaid_16 ?_
  refine g_ldc2 C (v := 6151) (List.mem_of_getElem? (i := 3) rfl) dX10_thingSaid_17 ?_
  refine g_iload_n C dX10_thingSaid_20 rfl 2 rfl ?_
  refine g_i2l C dX10_thingSaid_21 ?_
  refine g_lmul C dX10_thingSaid_22 ?_
  refine g_ladd C dX10_thingSaid_23 ?_
  refine g_ldc2 C (v := 4253) (List.mem_of_getElem? (i := 4) rfl) dX10_thingSaid_24 ?_
  refine g_iload_n C dX10_thingSaid_27 rfl 4 rfl ?_
  refine g_i2l C dX10_thingSaid_28 ?_
  refine g_lmul C dX10_thingSaid_29 ?_
  refine g_ladd C dX10_thingSaid_30 ?_
  refine g_lconst C 1 dX10_thingSaid_31 rfl ?_
  refine g_ladd C dX10_thingSaid_32 ?_
  refine g_nml (fun yq2 eyq2 => ?_)
  refine g_lstore C (lv' := [(5, .long yq2), (4, .int yq1), (0, .ref t0), (1, .int (nI p)), (2, .int z), (3, .int nt)]) dX10_thingSaid_33 (by decide) rfl ?_
  refine g_lload C dX10_thingSaid_35 0 rfl ?_
  refine g_lload C dX10_thingSaid_37 0 rfl ?_
  refine g_lmul C dX10_thingSaid_39 ?_
  refine g_ldc2 C (v := 65521) (List.mem_of_getElem? (i := 5) rfl) dX10_thingSaid_40 ?_
  refine g_lrem C dX10_thingSaid_43 (by decide) ?_
  refine g_ldc2 C (v := 8) (List.mem_of_getElem? (i := 6) rfl) dX10_thingSaid_44 ?_
  refine g_ldiv C dX10_thingSaid_47 (by decide) ?_
  refine g_l2i C dX10_thingSaid_48 ?_
  refine g_nm (fun yq3 eyq3 => ?_)
  refine g_istore C (lv' := [(7, .int yq3), (5, .long yq2), (4, .int yq1), (0, .ref t0), (1, .int (nI p)), (2, .int z), (3, .int nt)]) dX10_thingSaid_49 (by decide) rfl ?_
  refine g_iload C dX10_thingSaid_51 2 rfl ?_
  refine g_if_eq C 70 dX10_thingSaid_53 (by decide) (fun cq4 => ?_) (fun cq4 => ?_)
  · refine g_bipush C ((-9)) dX10_thingSaid_70 (by decide) ?_
    exact g_iret C X dX10_thingSaid_72 (⟨by subst_vars; unfold sayS; first | (rw [if_pos cq4]; done) | (have c9 : ¬ irm (drw p z nt) (nI 10) < ta p := cq4; rw [if_neg cq4, if_neg c9]; done), rfl⟩)
  · refine g_iload C dX10_thingSaid_56 0 rfl ?_
    refine g_bipush C (nI 10) dX10_thingSaid_58 (by decide) ?_
    refine g_irem C dX10_thingSaid_60 (by decide) ?_
    refine g_aload_n C dX10_thingSaid_61 rfl 3 rfl ?_
    refine g_get C i10 0 rfl rfl 1 (by decide) (List.mem_of_getElem? (i := 7) rfl) rfl rfl dX10_thingSaid_62 ?_
    refine g_iload_n C dX10_thingSaid_65 rfl 4 rfl ?_
    refine g_iald C 2 rfl (by omega) (by decide) dX10_thingSaid_66 ?_
    refine g_icmp_lt C 73 dX10_thingSaid_67 (by decide) (fun cq5 => ?_) (fun cq5 => ?_)
    · refine g_aload_n C dX10_thingSaid_73 rfl 3 rfl ?_
      refine g_get C i10 0 rfl rfl 0 (by decide) (List.mem_of_getElem? (i := 1) rfl) rfl rfl dX10_thingSaid_74 ?_
      refine g_iload_n C dX10_thingSaid_77 rfl 4 rfl ?_
      refine g_iald C 1 rfl (by omega) (by decide) dX10_thingSaid_78 ?_
      refine g_iload C dX10_thingSaid_79 0 rfl ?_
      refine g_bipush C (nI 10) dX10_thingSaid_81 (by decide) ?_
      refine g_idiv C dX10_thingSaid_83 (by decide) ?_
      refine g_iload C dX10_thingSaid_84 2 rfl ?_
      refine g_irem C dX10_thingSaid_86 (by assumption) ?_
      refine g_callS C (rest := []) (n := 2) (kX10_thingAt l E (kn p) ((yq3 / (nI 10)) - (yq3 / (nI 10)) / yq1 * yq1) ) gX10_thingSaid_X10_thingAt rfl ⟨rfl, rfl⟩ (by decide) (Nat.le_of_ble_eq_true rfl) rfl (by decide +kernel) rfl dX10_thingSaid_87 [] [0, 1, 2] rfl rfl ?_
      refine g_is1 (ws2 := [(t0, oB 10 [.ref t1, .ref t2, .ref t3, .int (nI n), .int (nI m)]), (t1, iA E 6 kn), (t2, iA E 6 ta)]) (st2 := [.int (thAt (kn p) ((yq3 / (nI 10)) - (yq3 / (nI 10)) / yq1 * yq1) 7 0 (nI 0))]) [0, 1, 2] rfl rfl rfl ?_
      exact g_iret C X dX10_thingSaid_90 (⟨by subst_vars; have c9 : irm (drw p z nt) (nI 10) < ta p := cq5; unfold sayS; rw [if_neg cq4, if_pos c9]; rfl, rfl⟩)
    · refine g_bipush C ((-9)) dX10_thingSaid_70 (by decide) ?_
      exact g_iret C X dX10_thingSaid_72 (⟨by subst_vars; unfold sayS; first | (rw [if_pos cq5]; done) | (have c9 : ¬ irm (drw p z nt) (nI 10) < ta p := cq5; rw [if_neg cq4, if_neg c9]; done), rfl⟩)

set_option maxHeartbeats 4000000 in
set_option maxRecDepth 100000 in
theorem kX8_begin (l : Launch) (E : EX) (h0 h1 : Nat) (f : Nat → Int32) (t0 t1 t2 t3 n m : Nat)  : M l E yX8_begin wsX8_begin { frames := 1, cells := 0, slots := 0, locals := 23 } 0 0 [.ref h0, .ref t0] [(h0, oB 8 [.ref h1]), (h1, iA E 50 f), (t0, oB 10 [.ref t1, .ref t2, .ref t3, .int (nI n), .int (nI m)])] (is1 none [(h0, oB 8 [.ref h1]), (h1, iA E 50 (begA f n m 6)), (t0, oB 10 [.ref t1, .ref t2, .ref t3, .int (nI n), .int (nI m)])]) := by
  refine M.ofG (cc := cX8_begin) (maxL := 3) (ret := none) (lv := [(0, .ref h0), (1, .ref t0)]) (own := RX8) (by decide) rfl rfl (Nat.le_of_ble_eq_true rfl) rfl ?_
  intro K C X _
  have i8 : ∀ w ∈ wsX80, w ∈ wsX8_begin := by decide +kernel
  refine g_aload_n C dX8_begin_0 rfl 0 rfl ?_
  refine g_get C i8 0 rfl rfl 0 (by decide) (List.mem_of_getElem? (i := 1) rfl) rfl rfl dX8_begin_1 ?_
  refine g_iconst C (nI 0) dX8_begin_4 (by decide) ?_
  refine g_callS C (rest := []) (n := 2) (kJ7_fill_53178 l E h1 50 f (nI 0) (by omega)) gX8_begin_J7_fill_53178 rfl ⟨rfl, rfl⟩ (by decide) (Nat.le_of_ble_eq_true rfl) rfl (by decide +kernel) rfl dX8_begin_5 [1] [0, 2] rfl rfl ?_
  refine g_is1 (ws2 := [(h0, oB 8 [.ref h1]), (h1, iA E 50 (filA f (nI 0) 50)), (t0, oB 10 [.ref t1, .ref t2, .ref t3, .int (nI n), .int (nI m)])]) (st2 := []) [0, 2, 1] rfl rfl rfl ?_
  refine g_iconst C (nI 0) dX8_begin_8 (by decide) ?_
  refine g_istore_n C (lv' := [(2, .int (nI 0)), (0, .ref h0), (1, .ref t0)]) dX8_begin_9 rfl (by decide) rfl ?_
  have L10 : ∀ (zz k : Nat) (u : Nat → Int32), k + zz = 6 + 1 → k ≤ 6 → (u = begA f n m k) → G K 0 0 10 [(0, .ref h0), (1, .ref t0), (2, .int (nI k))] [] [(h0, oB 8 [.ref h1]), (h1, iA E 50 u), (t0, oB 10 [.ref t1, .ref t2, .ref t3, .int (nI n), .int (nI m)])] := by
    intro zz
    induction zz with
    | zero => intro k u hL10 gL10; exfalso; omega
    | succ zz ihL10 =>
      intro k u hL10 gL10 hu
      refine g_iload_n C dX8_begin_10 rfl 2 rfl ?_
      refine g_bipush C (nI 6) dX8_begin_11 (by decide) ?_
      refine g_icmp_geN C 49 dX8_begin_13 (by decide) (by omega) (by omega) (fun cq1 => ?_) (fun cq1 => ?_)
      · have hk : k = 6 := by omega
        exact g_vret C X dX8_begin_49 (⟨rfl, by rw [hu, hk]⟩)
      · refine g_aload_n C dX8_begin_16 rfl 0 rfl ?_
        refine g_iload_n C dX8_begin_17 rfl 2 rfl ?_
        refine g_aload_n C dX8_begin_18 rfl 1 rfl ?_
        refine g_iload_n C dX8_begin_19 rfl 2 rfl ?_
        refine g_callV C (rest := [.int (nI k), .ref h0]) (n := 1) (kX10_hasPerson l E t0 t1 t2 t3 n m (nI k) ) gX8_begin_X10_hasPerson rfl ⟨rfl, rfl⟩ (by decide) (Nat.le_of_ble_eq_true rfl) rfl (by decide +kernel) rfl dX8_begin_20 0 rfl rfl [2] [0, 1] rfl rfl ?_
        refine g_is1 (ws2 := [(h0, oB 8 [.ref h1]), (h1, iA E 50 u), (t0, oB 10 [.ref t1, .ref t2, .ref t3, .int (nI n), .int (nI m)])]) (st2 := [.int (bI (inR (nI k) n)), .int (nI k), .ref h0]) [0, 1, 2] rfl rfl rfl ?_
        refine g_if_eqB C 38 dX8_begin_23 (by decide) (fun cq2 => ?_) (fun cq2 => ?_)
        · refine g_bipush C ((-9)) dX8_begin_38 (by decide) ?_
          refine g_callV C (rest := []) (n := 2) (kX8_lay l E h0 h1 u k (-9) (by omega)) gX8_begin_X8_lay rfl ⟨rfl, rfl⟩ (by decide) (Nat.le_of_ble_eq_true rfl) rfl (by decide +kernel) rfl dX8_begin_40 0 rfl rfl [0, 1] [2] rfl rfl ?_
          refine g_is1 (ws2 := [(h0, oB 8 [.ref h1]), (h1, iA E 50 (upd u (42 + k) (-9))), (t0, oB 10 [.ref t1, .ref t2, .ref t3, .int (nI n), .int (nI m)])]) (st2 := []) [1, 2, 0] rfl rfl rfl ?_
          refine g_iincN C (lv' := [(2, .int (nI (k + 1))), (0, .ref h0), (1, .ref t0)]) dX8_begin_43 2 rfl (by decide) rfl ?_
          refine g_goto C 10 dX8_begin_46 (by decide) ?_
          refine g_sub (lv' := [(0, .ref h0), (1, .ref t0), (2, .int (nI (k + 1)))]) [1, 2, 0] rfl ?_
          exact ihL10 (k + 1) (upd u (42 + k) (-9)) (by omega) (by omega) (by rw [hu, begA]; first | (rw [if_pos ⟨cq1, cq2⟩]; done) | (rw [if_neg (fun z => cq2 z.1)]; done) | (rw [if_neg (fun z => cq2 z.2)]; done))
        · refine g_aload_n C dX8_begin_26 rfl 1 rfl ?_
          refine g_iload_n C dX8_begin_27 rfl 2 rfl ?_
          refine g_callV C (rest := [.int (nI k), .ref h0]) (n := 1) (kX10_hasPillow l E t0 t1 t2 t3 n m (nI k) ) gX8_begin_X10_hasPillow rfl ⟨rfl, rfl⟩ (by decide) (Nat.le_of_ble_eq_true rfl) rfl (by decide +kernel) rfl dX8_begin_28 0 rfl rfl [2] [0, 1] rfl rfl ?_
          refine g_is1 (ws2 := [(h0, oB 8 [.ref h1]), (h1, iA E 50 u), (t0, oB 10 [.ref t1, .ref t2, .ref t3, .int (nI n), .int (nI m)])]) (st2 := [.int (bI (inR (nI k) m)), .int (nI k), .ref h0]) [0, 1, 2] rfl rfl rfl ?_
          refine g_if_eqB C 38 dX8_begin_31 (by decide) (fun cq3 => ?_) (fun cq3 => ?_)
          · refine g_bipush C ((-9)) dX8_begin_38 (by decide) ?_
            refine g_callV C (rest := []) (n := 2) (kX8_lay l E h0 h1 u k (-9) (by omega)) gX8_begin_X8_lay rfl ⟨rfl, rfl⟩ (by decide) (Nat.le_of_ble_eq_true rfl) rfl (by decide +kernel) rfl dX8_begin_40 0 rfl rfl [0, 1] [2] rfl rfl ?_
            refine g_is1 (ws2 := [(h0, oB 8 [.ref h1]), (h1, iA E 50 (upd u (42 + k) (-9))), (t0, oB 10 [.ref t1, .ref t2, .ref t3, .int (nI n), .int (nI m)])]) (st2 := []) [1, 2, 0] rfl rfl rfl ?_
            refine g_iincN C (lv' := [(2, .int (nI (k + 1))), (0, .ref h0), (1, .ref t0)]) dX8_begin_43 2 rfl (by decide) rfl ?_
            refine g_goto C 10 dX8_begin_46 (by decide) ?_
            refine g_sub (lv' := [(0, .ref h0), (1, .ref t0), (2, .int (nI (k + 1)))]) [1, 2, 0] rfl ?_
            exact ihL10 (k + 1) (upd u (42 + k) (-9)) (by omega) (by omega) (by rw [hu, begA]; first | (rw [if_pos ⟨cq2, cq3⟩]; done) | (rw [if_neg (fun z => cq3 z.1)]; done) | (rw [if_neg (fun z => cq3 z.2)]; done))
          · refine g_iload_n C dX8_begin_34 rfl 2 rfl ?_
            refine g_goto C 40 dX8_begin_35 (by decide) ?_
            refine g_callV C (rest := []) (n := 2) (kX8_lay l E h0 h1 u k (nI k) (by omega)) gX8_begin_X8_lay rfl ⟨rfl, rfl⟩ (by decide) (Nat.le_of_ble_eq_true rfl) rfl (by decide +kernel) rfl dX8_begin_40 0 rfl rfl [0, 1] [2] rfl rfl ?_
            refine g_is1 (ws2 := [(h0, oB 8 [.ref h1]), (h1, iA E 50 (upd u (42 + k) (nI k))), (t0, oB 10 [.ref t1, .ref t2, .ref t3, .int (nI n), .int (nI m)])]) (st2 := []) [1, 2, 0] rfl rfl rfl ?_
            refine g_iincN C (lv' := [(2, .int (nI (k + 1))), (0, .ref h0), (1, .ref t0)]) dX8_begin_43 2 rfl (by decide) rfl ?_
            refine g_goto C 10 dX8_begin_46 (by decide) ?_
            refine g_sub (lv' := [(0, .ref h0), (1, .ref t0), (2, .int (nI (k + 1)))]) [1, 2, 0] rfl ?_
            exact ihL10 (k + 1) (upd u (42 + k) (nI k)) (by omega) (by omega) (by rw [hu, begA]; first | (rw [if_pos ⟨cq2, cq3⟩]; done) | (rw [if_neg (fun z => cq3 z.1)]; done) | (rw [if_neg (fun z => cq3 z.2)]; done))
  refine g_sub (lv' := [(0, .ref h0), (1, .ref t0), (2, .int (nI 0))]) [1, 2, 0] rfl ?_
  exact L10 (6 + 1 - 0) 0 (filA f (nI 0) 50) (by omega) (by omega) (by first | rfl | omega | (simp [begA]; done))

set_option maxHeartbeats 4000000 in
set_option maxRecDepth 100000 in
theorem kX8_hear (l : Launch) (E : EX) (h0 h1 : Nat) (f : Nat → Int32) (b : Int32) (t : Nat) (ht : t < 7) : M l E yX8_hear wsX8_hear { frames := 2, cells := 0, slots := 0, locals := 38 } 0 0 [.ref h0, .int b, .int (nI t)] [(h0, oB 8 [.ref h1]), (h1, iA E 50 f)] (is1 none [(h0, oB 8 [.ref h1]), (h1, iA E 50 (hrS f b t))]) := by
  refine M.ofG (cc := cX8_hear) (maxL := 3) (ret := none) (lv := [(0, .ref h0), (1, .int b), (2, .int (nI t))]) (own := RX8) (by decide) rfl rfl (Nat.le_of_ble_eq_true rfl) rfl ?_
  intro K C X _
  refine g_iload_n C dX8_hear_0 rfl 1 rfl ?_
  refine g_if_lt C 24 dX8_hear_1 (by decide) (fun cq1 => ?_) (fun cq1 => ?_)
  · have hb : hrS f b t = f := hrS_n (fun z => z.1 cq1)
    exact g_vret C X dX8_hear_24 (⟨rfl, by first | (rw [hb]; done) | (rw [hrS_y hj]; done)⟩)
  · refine g_iload_n C dX8_hear_4 rfl 1 rfl ?_
    refine g_bipush C (nI 6) dX8_hear_5 (by decide) ?_
    refine g_icmp_ge C 24 dX8_hear_7 (by decide) (fun cq2 => ?_) (fun cq2 => ?_)
    · have hb : hrS f b t = f := hrS_n (fun z => z.2 cq2)
      exact g_vret C X dX8_hear_24 (⟨rfl, by first | (rw [hb]; done) | (rw [hrS_y hj]; done)⟩)
    · obtain ⟨j, hj, rfl⟩ := inR_of (n := 6) (by decide) ⟨cq1, cq2⟩
      refine g_aload_n C dX8_hear_10 rfl 0 rfl ?_
      refine g_iload_n C dX8_hear_11 rfl 1 rfl ?_
      refine g_iload_n C dX8_hear_12 rfl 2 rfl ?_
      refine g_aload_n C dX8_hear_13 rfl 0 rfl ?_
      refine g_iload_n C dX8_hear_14 rfl 1 rfl ?_
      refine g_iload_n C dX8_hear_15 rfl 2 rfl ?_
      refine g_callV C (rest := [.int (nI t), .int (nI j), .ref h0]) (n := 2) (kX8_times l E h0 h1 f j t (by omega) (by omega)) gX8_hear_X8_times rfl ⟨rfl, rfl⟩ (by decide) (Nat.le_of_ble_eq_true rfl) rfl (by decide +kernel) rfl dX8_hear_16 0 rfl rfl [0, 1] [] rfl rfl ?_
      refine g_is1 (ws2 := [(h0, oB 8 [.ref h1]), (h1, iA E 50 f)]) (st2 := [.int (f (j * 7 + t)), .int (nI t), .int (nI j), .ref h0]) [0, 1] rfl rfl rfl ?_
      refine g_iconst C (nI 1) dX8_hear_19 (by decide) ?_
      refine g_iadd C dX8_hear_20 ?_
      refine g_callV C (rest := []) (n := 3) (kX8_setTimes l E h0 h1 f j t ((f (j * 7 + t)) + (nI 1)) (by omega) (by omega)) gX8_hear_X8_setTimes rfl ⟨rfl, rfl⟩ (by decide) (Nat.le_of_ble_eq_true rfl) rfl (by decide +kernel) rfl dX8_hear_21 0 rfl rfl [0, 1] [] rfl rfl ?_
      refine g_is1 (ws2 := [(h0, oB 8 [.ref h1]), (h1, iA E 50 (upd f (j * 7 + t) (imin ((f (j * 7 + t)) + (nI 1)) (nI 99))))]) (st2 := []) [0, 1] rfl rfl rfl ?_
      exact g_vret C X dX8_hear_24 (⟨rfl, by first | (rw [hb]; done) | (rw [hrS_y hj]; done)⟩)

set_option maxHeartbeats 4000000 in
set_option maxRecDepth 100000 in
theorem kX8_slip (l : Launch) (E : EX) (h0 h1 : Nat) (f : Nat → Int32) (q : Nat) (hq : q < 6) : M l E yX8_slip wsX8_slip { frames := 2, cells := 0, slots := 0, locals := 38 } 0 0 [.ref h0, .int (nI q)] [(h0, oB 8 [.ref h1]), (h1, iA E 50 f)] (is1 none [(h0, oB 8 [.ref h1]), (h1, iA E 50 (slipS f q))]) := by
  refine M.ofG (cc := cX8_slip) (maxL := 3) (ret := none) (lv := [(0, .ref h0), (1, .int (nI q))]) (own := RX8) (by decide) rfl rfl (Nat.le_of_ble_eq_true rfl) rfl ?_
  intro K C X _
  have i8 : ∀ w ∈ wsX80, w ∈ wsX8_slip := by decide +kernel
  refine g_iconst C (nI 0) dX8_slip_0 (by decide) ?_
  refine g_istore_n C (lv' := [(2, .int (nI 0)), (0, .ref h0), (1, .int (nI q))]) dX8_slip_1 rfl (by decide) rfl ?_
  have L2 : ∀ (zz k : Nat) (u : Nat → Int32), k + zz = 7 + 1 → k ≤ 7 → (u = slpA f q k) → G K 0 0 2 [(0, .ref h0), (1, .int (nI q)), (2, .int (nI k))] [] [(h0, oB 8 [.ref h1]), (h1, iA E 50 u)] := by
    intro zz
    induction zz with
    | zero => intro k u hL2 gL2; exfalso; omega
    | succ zz ihL2 =>
      intro k u hL2 gL2 hu
      refine g_iload_n C dX8_slip_2 rfl 2 rfl ?_
      refine g_bipush C (nI 7) dX8_slip_3 (by decide) ?_
      refine g_icmp_geN C 21 dX8_slip_5 (by decide) (by omega) (by omega) (fun cq1 => ?_) (fun cq1 => ?_)
      · have hk : k = 7 := by omega
        refine g_aload_n C dX8_slip_21 rfl 0 rfl ?_
        refine g_get C i8 0 rfl rfl 0 (by decide) (List.mem_of_getElem? (i := 1) rfl) rfl rfl dX8_slip_22 ?_
        refine g_bipush C (nI 48) dX8_slip_25 (by decide) ?_
        refine g_dup2 C dX8_slip_27 rfl rfl ?_
        refine g_iald C 1 rfl (by omega) (by decide) dX8_slip_28 ?_
        refine g_iconst C (nI 1) dX8_slip_29 (by decide) ?_
        refine g_iload_n C dX8_slip_30 rfl 1 rfl ?_
        refine g_ishl1 C dX8_slip_31 (by omega) ?_
        refine g_iconst C ((-1)) dX8_slip_32 (by decide) ?_
        refine g_ixor C dX8_slip_33 ?_
        refine g_iand C dX8_slip_34 ?_
        refine g_iast C (ws' := fun fq2 => [(h0, oB 8 [.ref h1]), (h1, iA E 50 fq2)]) 1 rfl (by omega) (by decide) dX8_slip_35 (fun _ _ => rfl) (fun fq2 efq2 => ?_)
        exact g_vret C X dX8_slip_36 (⟨rfl, by rw [efq2, hu, hk, slipS]⟩)
      · refine g_aload_n C dX8_slip_8 rfl 0 rfl ?_
        refine g_iload_n C dX8_slip_9 rfl 1 rfl ?_
        refine g_iload_n C dX8_slip_10 rfl 2 rfl ?_
        refine g_iconst C (nI 0) dX8_slip_11 (by decide) ?_
        refine g_callV C (rest := []) (n := 3) (kX8_setTimes l E h0 h1 u q k (nI 0) (by omega) (by omega)) gX8_slip_X8_setTimes rfl ⟨rfl, rfl⟩ (by decide) (Nat.le_of_ble_eq_true rfl) rfl (by decide +kernel) rfl dX8_slip_12 0 rfl rfl [0, 1] [] rfl rfl ?_
        refine g_is1 (ws2 := [(h0, oB 8 [.ref h1]), (h1, iA E 50 (upd u (q * 7 + k) (imin (nI 0) (nI 99))))]) (st2 := []) [0, 1] rfl rfl rfl ?_
        refine g_iincN C (lv' := [(2, .int (nI (k + 1))), (0, .ref h0), (1, .int (nI q))]) dX8_slip_15 2 rfl (by decide) rfl ?_
        refine g_goto C 2 dX8_slip_18 (by decide) ?_
        refine g_sub (lv' := [(0, .ref h0), (1, .int (nI q)), (2, .int (nI (k + 1)))]) [1, 2, 0] rfl ?_
        exact ihL2 (k + 1) (upd u (q * 7 + k) (imin (nI 0) (nI 99))) (by omega) (by omega) (by first | omega | (simp [slpA, hu, cq1]; done))
  refine g_sub (lv' := [(0, .ref h0), (1, .int (nI q)), (2, .int (nI 0))]) [1, 2, 0] rfl ?_
  exact L2 (7 + 1 - 0) 0 f (by omega) (by omega) (by first | rfl | omega | (simp [slpA]; done))

set_option maxHeartbeats 4000000 in
set_option maxRecDepth 100000 in
theorem kX8_mix (l : Launch) (E : EX) (h0 h1 : Nat) (f : Nat → Int32) (a b : Nat) (ha : a < 6) (hb : b < 6) : M l E yX8_mix wsX8_mix { frames := 2, cells := 0, slots := 0, locals := 38 } 0 0 [.ref h0, .int (nI a), .int (nI b)] [(h0, oB 8 [.ref h1]), (h1, iA E 50 f)] (is1 none [(h0, oB 8 [.ref h1]), (h1, iA E 50 (mixA f a b 7))]) := by
  refine M.ofG (cc := cX8_mix) (maxL := 5) (ret := none) (lv := [(0, .ref h0), (1, .int (nI a)), (2, .int (nI b))]) (own := RX8) (by decide) rfl rfl (Nat.le_of_ble_eq_true rfl) rfl ?_
  intro K C X _
  refine g_iconst C (nI 0) dX8_mix_0 (by decide) ?_
  refine g_istore_n C (lv' := [(3, .int (nI 0)), (0, .ref h0), (1, .int (nI a)), (2, .int (nI b))]) dX8_mix_1 rfl (by decide) rfl ?_
  have L2 : ∀ (zz k : Nat) (u : Nat → Int32), k + zz = 7 + 1 → k ≤ 7 → (u = mixA f a b k) → G K 0 0 2 [(0, .ref h0), (1, .int (nI a)), (2, .int (nI b)), (3, .int (nI k))] [] [(h0, oB 8 [.ref h1]), (h1, iA E 50 u)] := by
    intro zz
    induction zz with
    | zero => intro k u hL2 gL2; exfalso; omega
    | succ zz ihL2 =>
      intro k u hL2 gL2 hu
      refine g_iload_n C dX8_mix_2 rfl 3 rfl ?_
      refine g_bipush C (nI 7) dX8_mix_3 (by decide) ?_
      refine g_icmp_geN C 45 dX8_mix_5 (by decide) (by omega) (by omega) (fun cq1 => ?_) (fun cq1 => ?_)
      · have hk : k = 7 := by omega
        exact g_vret C X dX8_mix_45 (⟨rfl, by rw [hu, hk]⟩)
      · refine g_aload_n C dX8_mix_8 rfl 0 rfl ?_
        refine g_iload_n C dX8_mix_9 rfl 1 rfl ?_
        refine g_iload_n C dX8_mix_10 rfl 3 rfl ?_
        refine g_callV C (rest := []) (n := 2) (kX8_times l E h0 h1 u a k (by omega) (by omega)) gX8_mix_X8_times rfl ⟨rfl, rfl⟩ (by decide) (Nat.le_of_ble_eq_true rfl) rfl (by decide +kernel) rfl dX8_mix_11 0 rfl rfl [0, 1] [] rfl rfl ?_
        refine g_is1 (ws2 := [(h0, oB 8 [.ref h1]), (h1, iA E 50 u)]) (st2 := [.int (u (a * 7 + k))]) [0, 1] rfl rfl rfl ?_
        refine g_aload_n C dX8_mix_14 rfl 0 rfl ?_
        refine g_iload_n C dX8_mix_15 rfl 2 rfl ?_
        refine g_iload_n C dX8_mix_16 rfl 3 rfl ?_
        refine g_callV C (rest := [.int (u (a * 7 + k))]) (n := 2) (kX8_times l E h0 h1 u b k (by omega) (by omega)) gX8_mix_X8_times rfl ⟨rfl, rfl⟩ (by decide) (Nat.le_of_ble_eq_true rfl) rfl (by decide +kernel) rfl dX8_mix_17 0 rfl rfl [0, 1] [] rfl rfl ?_
        refine g_is1 (ws2 := [(h0, oB 8 [.ref h1]), (h1, iA E 50 u)]) (st2 := [.int (u (b * 7 + k)), .int (u (a * 7 + k))]) [0, 1] rfl rfl rfl ?_
        refine g_iadd C dX8_mix_20 ?_
        refine g_nm (fun yq2 eyq2 => ?_)
        refine g_istore C (lv' := [(4, .int yq2), (0, .ref h0), (1, .int (nI a)), (2, .int (nI b)), (3, .int (nI k))]) dX8_mix_21 (by decide) rfl ?_
        refine g_aload_n C dX8_mix_23 rfl 1 rfl ?_
        refine g_iload_n C dX8_mix_24 rfl 2 rfl ?_
        refine g_iload_n C dX8_mix_25 rfl 4 rfl ?_
        refine g_iload C dX8_mix_26 0 rfl ?_
        refine g_callV C (rest := []) (n := 3) (kX8_setTimes l E h0 h1 u a k yq2 (by omega) (by omega)) gX8_mix_X8_setTimes rfl ⟨rfl, rfl⟩ (by decide) (Nat.le_of_ble_eq_true rfl) rfl (by decide +kernel) rfl dX8_mix_28 0 rfl rfl [0, 1] [] rfl rfl ?_
        refine g_is1 (ws2 := [(h0, oB 8 [.ref h1]), (h1, iA E 50 (upd u (a * 7 + k) (imin yq2 (nI 99))))]) (st2 := []) [0, 1] rfl rfl rfl ?_
        refine g_aload_n C dX8_mix_31 rfl 1 rfl ?_
        refine g_iload_n C dX8_mix_32 rfl 3 rfl ?_
        refine g_iload_n C dX8_mix_33 rfl 4 rfl ?_
        refine g_iload C dX8_mix_34 0 rfl ?_
        refine g_callV C (rest := []) (n := 3) (kX8_setTimes l E h0 h1 (upd u (a * 7 + k) (imin yq2 (nI 99))) b k yq2 (by omega) (by omega)) gX8_mix_X8_setTimes rfl ⟨rfl, rfl⟩ (by decide) (Nat.le_of_ble_eq_true rfl) rfl (by decide +kernel) rfl dX8_mix_36 0 rfl rfl [0, 1] [] rfl rfl ?_
        refine g_is1 (ws2 := [(h0, oB 8 [.ref h1]), (h1, iA E 50 (upd (upd u (a * 7 + k) (imin yq2 (nI 99))) (b * 7 + k) (imin yq2 (nI 99))))]) (st2 := []) [0, 1] rfl rfl rfl ?_
        refine g_iincN C (lv' := [(3, .int (nI (k + 1))), (4, .int yq2), (0, .ref h0), (1, .int (nI a)), (2, .int (nI b))]) dX8_mix_39 4 rfl (by decide) rfl ?_
        refine g_goto C 2 dX8_mix_42 (by decide) ?_
        refine g_sub (lv' := [(0, .ref h0), (1, .int (nI a)), (2, .int (nI b)), (3, .int (nI (k + 1)))]) [2, 3, 4, 0] rfl ?_
        exact ihL2 (k + 1) (upd (upd u (a * 7 + k) (imin yq2 (nI 99))) (b * 7 + k) (imin yq2 (nI 99))) (by omega) (by omega) (by rw [mixA, mixT, ← hu, eyq2])
  refine g_sub (lv' := [(0, .ref h0), (1, .int (nI a)), (2, .int (nI b)), (3, .int (nI 0))]) [1, 2, 3, 0] rfl ?_
  exact L2 (7 + 1 - 0) 0 f (by omega) (by omega) (by first | rfl | omega | (simp []; done))

set_option maxHeartbeats 4000000 in
set_option maxRecDepth 100000 in
theorem kX8_sleep (l : Launch) (E : EX) (h0 h1 : Nat) (f : Nat → Int32) (t0 t1 t2 t3 n m : Nat) (kn ta : Nat → Int32) (z : Int32) (hn : n ≤ 6) : M l E yX8_sleep wsX8_sleep { frames := 3, cells := 0, slots := 0, locals := 60 } 0 0 [.ref h0, .ref t0, .int z] [(h0, oB 8 [.ref h1]), (h1, iA E 50 f), (t0, oB 10 [.ref t1, .ref t2, .ref t3, .int (nI n), .int (nI m)]), (t1, iA E 6 kn), (t2, iA E 6 ta)] (is1 (some (.int (nI ((slpS kn ta z (f 49) f n).1)))) [(h0, oB 8 [.ref h1]), (h1, iA E 50 (upd (slpS kn ta z (f 49) f n).2 49 ((slpS kn ta z (f 49) f n).2 49 + nI 1))), (t0, oB 10 [.ref t1, .ref t2, .ref t3, .int (nI n), .int (nI m)]), (t1, iA E 6 kn), (t2, iA E 6 ta)]) := by
  refine M.ofG (cc := cX8_sleep) (maxL := 6) (ret := (some .int)) (lv := [(0, .ref h0), (1, .ref t0), (2, .int z)]) (own := RX8) (by decide) rfl rfl (Nat.le_of_ble_eq_true rfl) rfl ?_
  intro K C X _
  have i8 : ∀ w ∈ wsX80, w ∈ wsX8_sleep := by decide +kernel
  have i10 : ∀ w ∈ wsX100, w ∈ wsX8_sleep := by decide +kernel
  refine g_iconst C (nI 0) dX8_sleep_0 (by decide) ?_
  refine g_istore_n C (lv' := [(3, .int (nI 0)), (0, .ref h0), (1, .ref t0), (2, .int z)]) dX8_sleep_1 rfl (by decide) rfl ?_
  refine g_iconst C (nI 0) dX8_sleep_2 (by decide) ?_
  refine g_istore C (lv' := [(4, .int (nI 0)), (3, .int (nI 0)), (0, .ref h0), (1, .ref t0), (2, .int z)]) dX8_sleep_3 (by decide) rfl ?_
  have L5 : ∀ (zz k : Nat) (a : Nat) (u : Nat → Int32), k + zz = n + 1 → k ≤ n → (a = (slpS kn ta z (f 49) f k).1) → (u = (slpS kn ta z (f 49) f k).2) → (u 49 = f 49) → G K 0 0 5 [(0, .ref h0), (1, .ref t0), (2, .int z), (3, .int (nI a)), (4, .int (nI k))] [] [(h0, oB 8 [.ref h1]), (h1, iA E 50 u), (t0, oB 10 [.ref t1, .ref t2, .ref t3, .int (nI n), .int (nI m)]), (t1, iA E 6 kn), (t2, iA E 6 ta)] := by
    intro zz
    induction zz with
    | zero => intro k a u hL5 gL5; exfalso; omega
    | succ zz ihL5 =>
      intro k a u hL5 gL5 ha hu h49
      refine g_iload C dX8_sleep_5 4 rfl ?_
      refine g_aload_n C dX8_sleep_7 rfl 1 rfl ?_
      refine g_get C i10 2 rfl rfl 3 (by decide) (List.mem_of_getElem? (i := 1) rfl) rfl rfl dX8_sleep_8 ?_
      refine g_icmp_geN C 53 dX8_sleep_11 (by decide) (by omega) (by omega) (fun cq1 => ?_) (fun cq1 => ?_)
      · have hk : k = n := by omega
        refine g_aload_n C dX8_sleep_53 rfl 0 rfl ?_
        refine g_get C i8 0 rfl rfl 0 (by decide) (List.mem_of_getElem? (i := 2) rfl) rfl rfl dX8_sleep_54 ?_
        refine g_bipush C (nI 49) dX8_sleep_57 (by decide) ?_
        refine g_dup2 C dX8_sleep_59 rfl rfl ?_
        refine g_iald C 1 rfl (by omega) (by decide) dX8_sleep_60 ?_
        refine g_iconst C (nI 1) dX8_sleep_61 (by decide) ?_
        refine g_iadd C dX8_sleep_62 ?_
        refine g_iast C (ws' := fun fq2 => [(h0, oB 8 [.ref h1]), (h1, iA E 50 fq2), (t0, oB 10 [.ref t1, .ref t2, .ref t3, .int (nI n), .int (nI m)]), (t1, iA E 6 kn), (t2, iA E 6 ta)]) 1 rfl (by omega) (by decide) dX8_sleep_63 (fun _ _ => rfl) (fun fq2 efq2 => ?_)
        refine g_iload_n C dX8_sleep_64 rfl 3 rfl ?_
        exact g_iret C X dX8_sleep_65 (⟨by rw [ha, hk], by rw [efq2, hu, hk]⟩)
      · refine g_aload_n C dX8_sleep_14 rfl 1 rfl ?_
        refine g_iload C dX8_sleep_15 4 rfl ?_
        refine g_iload_n C dX8_sleep_17 rfl 2 rfl ?_
        refine g_aload_n C dX8_sleep_18 rfl 0 rfl ?_
        refine g_callV C (rest := [.int z, .int (nI k), .ref t0]) (n := 0) (kX8_nightNumber l E h0 h1 u ) gX8_sleep_X8_nightNumber rfl ⟨rfl, rfl⟩ (by decide) (Nat.le_of_ble_eq_true rfl) rfl (by decide +kernel) rfl dX8_sleep_19 0 rfl rfl [0, 1] [2, 3, 4] rfl rfl ?_
        refine g_is1 (ws2 := [(h0, oB 8 [.ref h1]), (h1, iA E 50 u), (t0, oB 10 [.ref t1, .ref t2, .ref t3, .int (nI n), .int (nI m)]), (t1, iA E 6 kn), (t2, iA E 6 ta)]) (st2 := [.int (u 49), .int z, .int (nI k), .ref t0]) [3, 4, 0, 1, 2] rfl rfl rfl ?_
        refine g_callV C (rest := []) (n := 3) (kX10_thingSaid l E t0 t1 t2 t3 n m kn ta k z (u 49) (by omega)) gX8_sleep_X10_thingSaid rfl ⟨rfl, rfl⟩ (by decide) (Nat.le_of_ble_eq_true rfl) rfl (by decide +kernel) rfl dX8_sleep_22 0 rfl rfl [2, 3, 4] [0, 1] rfl rfl ?_
        refine g_is1 (ws2 := [(h0, oB 8 [.ref h1]), (h1, iA E 50 u), (t0, oB 10 [.ref t1, .ref t2, .ref t3, .int (nI n), .int (nI m)]), (t1, iA E 6 kn), (t2, iA E 6 ta)]) (st2 := [.int (sayS kn ta k z (u 49))]) [0, 1, 2, 3, 4] rfl rfl rfl ?_
        refine g_nm (fun yq3 eyq3 => ?_)
        refine g_istore C (lv' := [(5, .int yq3), (0, .ref h0), (1, .ref t0), (2, .int z), (3, .int (nI a)), (4, .int (nI k))]) dX8_sleep_25 (by decide) rfl ?_
        refine g_iload C dX8_sleep_27 0 rfl ?_
        refine g_if_lt C 47 dX8_sleep_29 (by decide) (fun cq4 => ?_) (fun cq4 => ?_)
        · refine g_iincN C (lv' := [(4, .int (nI (k + 1))), (5, .int yq3), (0, .ref h0), (1, .ref t0), (2, .int z), (3, .int (nI a))]) dX8_sleep_47 5 rfl (by decide) rfl ?_
          refine g_goto C 5 dX8_sleep_50 (by decide) ?_
          refine g_sub (lv' := [(0, .ref h0), (1, .ref t0), (2, .int z), (3, .int (nI a)), (4, .int (nI (k + 1)))]) [2, 3, 4, 5, 0] rfl ?_
          exact ihL5 (k + 1) a u (by omega) (by omega) (by rw [h49] at eyq3; rw [slpS, ← eyq3]; first | (rw [if_neg cq4, ← ha]; done) | (rw [if_pos cq4, ← ha]; done)) (by rw [h49] at eyq3; rw [slpS, ← eyq3]; first | (rw [if_neg cq4, nI_clamp (by omega), ← hu]; done) | (rw [if_pos cq4, ← hu]; done)) (by first | assumption | (rw [hrS_hi hj (by decide)]; assumption))
        · obtain ⟨j, hj, rfl⟩ : ∃ j, j < 7 ∧ yq3 = nI j := by rcases sayS_in kn ta k z (u 49) with h | h; (exact absurd (eyq3 ▸ h) cq4); (exact eyq3 ▸ h)
          refine g_iincN C (lv' := [(3, .int (nI (a + 1))), (5, .int (nI j)), (0, .ref h0), (1, .ref t0), (2, .int z), (4, .int (nI k))]) dX8_sleep_32 4 rfl (by decide) rfl ?_
          refine g_aload_n C dX8_sleep_35 rfl 2 rfl ?_
          refine g_aload_n C dX8_sleep_36 rfl 2 rfl ?_
          refine g_iload C dX8_sleep_37 5 rfl ?_
          refine g_callV C (rest := [.ref h0]) (n := 1) (kX8_bedOf l E h0 h1 u k (by omega)) gX8_sleep_X8_bedOf rfl ⟨rfl, rfl⟩ (by decide) (Nat.le_of_ble_eq_true rfl) rfl (by decide +kernel) rfl dX8_sleep_39 0 rfl rfl [0, 1] [2, 3, 4] rfl rfl ?_
          refine g_is1 (ws2 := [(h0, oB 8 [.ref h1]), (h1, iA E 50 u), (t0, oB 10 [.ref t1, .ref t2, .ref t3, .int (nI n), .int (nI m)]), (t1, iA E 6 kn), (t2, iA E 6 ta)]) (st2 := [.int (u (42 + k)), .ref h0]) [3, 4, 0, 1, 2] rfl rfl rfl ?_
          refine g_iload C dX8_sleep_42 1 rfl ?_
          refine g_callV C (rest := []) (n := 2) (kX8_hear l E h0 h1 u (u (42 + k)) j (by omega)) gX8_sleep_X8_hear rfl ⟨rfl, rfl⟩ (by decide) (Nat.le_of_ble_eq_true rfl) rfl (by decide +kernel) rfl dX8_sleep_44 0 rfl rfl [0, 1] [2, 3, 4] rfl rfl ?_
          refine g_is1 (ws2 := [(h0, oB 8 [.ref h1]), (h1, iA E 50 (hrS u (u (42 + k)) j)), (t0, oB 10 [.ref t1, .ref t2, .ref t3, .int (nI n), .int (nI m)]), (t1, iA E 6 kn), (t2, iA E 6 ta)]) (st2 := []) [3, 4, 0, 1, 2] rfl rfl rfl ?_
          refine g_iincN C (lv' := [(4, .int (nI (k + 1))), (3, .int (nI (a + 1))), (5, .int (nI j)), (0, .ref h0), (1, .ref t0), (2, .int z)]) dX8_sleep_47 5 rfl (by decide) rfl ?_
          refine g_goto C 5 dX8_sleep_50 (by decide) ?_
          refine g_sub (lv' := [(0, .ref h0), (1, .ref t0), (2, .int z), (3, .int (nI (a + 1))), (4, .int (nI (k + 1)))]) [3, 4, 5, 1, 0] rfl ?_
          exact ihL5 (k + 1) (a + 1) (hrS u (u (42 + k)) j) (by omega) (by omega) (by rw [h49] at eyq3; rw [slpS, ← eyq3]; first | (rw [if_neg cq4, ← ha]; done) | (rw [if_pos cq4, ← ha]; done)) (by rw [h49] at eyq3; rw [slpS, ← eyq3]; first | (rw [if_neg cq4, nI_clamp (by omega), ← hu]; done) | (rw [if_pos cq4, ← hu]; done)) (by first | assumption | (rw [hrS_hi hj (by decide)]; assumption))
  refine g_sub (lv' := [(0, .ref h0), (1, .ref t0), (2, .int z), (3, .int (nI 0)), (4, .int (nI 0))]) [2, 3, 4, 1, 0] rfl ?_
  exact L5 (n + 1 - 0) 0 0 f (by omega) (by omega) (by first | rfl | omega | (simp []; done)) (by first | rfl | omega | (simp []; done)) (by first | rfl | omega | (simp []; done))
