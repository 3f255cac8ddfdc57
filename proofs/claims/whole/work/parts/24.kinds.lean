/-! the kinds -/
def rt6 (f : Nat → Int32) (q : Nat) : Int32 := bc (thOn f q 7)
def rt3 (f : Nat → Int32) (q : Nat) : Int32 := rt6 f q + tiOn f q (nI 127) 7
def rt2 (f : Nat → Int32) (q : Nat) : Int32 := rt6 f q - bc (slOn f q 6)

set_option maxHeartbeats 4000000 in
set_option maxRecDepth 100000 in
theorem kX6_rating_1 (l : Launch) (E : EX) (k0 : Nat) (a : Int64) (h0 h1 : Nat) (f : Nat → Int32) (q : Nat) (hq : q < 6) : M l E yX6_rating wsX6_rating { frames := 2, cells := 0, slots := 0, locals := 45 } 0 0 [.ref k0, .ref h0, .int (nI q)] [(k0, oB 1 [.long a]), (h0, oB 8 [.ref h1]), (h1, iA E 50 f)] (is1 (some (.int (rt6 f q))) [(k0, oB 1 [.long (a + 1)]), (h0, oB 8 [.ref h1]), (h1, iA E 50 f)]) := by
  refine M.ofG (cc := cX6_rating) (maxL := 3) (ret := (some .int)) (lv := [(0, .ref k0), (1, .ref h0), (2, .int (nI q))]) (own := RX6) (by decide) rfl rfl (Nat.le_of_ble_eq_true rfl) rfl ?_
  intro K C X _
  have i1 : ∀ w ∈ wsX10, w ∈ wsX6_rating := by decide +kernel
  refine g_aload_n C dX6_rating_0 rfl 0 rfl ?_
  refine g_dup C dX6_rating_1 rfl ?_
  refine g_get C i1 0 rfl rfl 0 (by decide) (List.mem_of_getElem? (i := 1) rfl) rfl rfl dX6_rating_2 ?_
  refine g_lconst C 1 dX6_rating_5 rfl ?_
  refine g_ladd C dX6_rating_6 ?_
  refine g_put C i1 tyX1 tyX1_ok nmX1 0 rfl rfl 0 (by decide) (List.mem_of_getElem? (i := 1) rfl) rfl rfl rfl rfl rfl (Nat.le_of_ble_eq_true rfl) dX6_rating_7 (ws' := [(k0, oB 1 [.long (a + 1)]), (h0, oB 8 [.ref h1]), (h1, iA E 50 f)]) rfl ?_
  refine g_aload_n C dX6_rating_10 rfl 1 rfl ?_
  refine g_iload_n C dX6_rating_11 rfl 2 rfl ?_
  refine g_callV C (rest := []) (n := 1) (kX8_thingsOn l E h0 h1 f q (by omega)) gX6_rating_X8_thingsOn rfl ⟨rfl, rfl⟩ (by decide) (Nat.le_of_ble_eq_true rfl) rfl (by decide +kernel) rfl dX6_rating_12 0 rfl rfl [1, 2] [0] rfl rfl ?_
  refine g_is1 (ws2 := [(k0, oB 1 [.long (a + 1)]), (h0, oB 8 [.ref h1]), (h1, iA E 50 f)]) (st2 := [.int (thOn f q 7)]) [0, 1, 2] rfl rfl rfl ?_
  refine g_callS C (rest := []) (n := 1) (kJ6_bitCount_0f7a4 l E (thOn f q 7) ) gX6_rating_J6_bitCount_0f7a4 rfl ⟨rfl, rfl⟩ (by decide) (Nat.le_of_ble_eq_true rfl) rfl (by decide +kernel) rfl dX6_rating_15 [] [0, 1, 2] rfl rfl ?_
  refine g_is1 (ws2 := [(k0, oB 1 [.long (a + 1)]), (h0, oB 8 [.ref h1]), (h1, iA E 50 f)]) (st2 := [.int (bc (thOn f q 7))]) [0, 1, 2] rfl rfl rfl ?_
  exact g_iret C X dX6_rating_18 (⟨rfl, rfl⟩)

set_option maxHeartbeats 4000000 in
set_option maxRecDepth 100000 in
theorem kX6_rating_2 (l : Launch) (E : EX) (k0 : Nat) (a : Int64) (h0 h1 : Nat) (f : Nat → Int32) (q : Nat) (hq : q < 6) : M l E yX6_rating wsX6_rating { frames := 2, cells := 0, slots := 0, locals := 45 } 0 0 [.ref k0, .ref h0, .int (nI q)] [(k0, oB 2 [.long a]), (h0, oB 8 [.ref h1]), (h1, iA E 50 f)] (is1 (some (.int (rt6 f q))) [(k0, oB 2 [.long (a + 1)]), (h0, oB 8 [.ref h1]), (h1, iA E 50 f)]) := by
  refine M.ofG (cc := cX6_rating) (maxL := 3) (ret := (some .int)) (lv := [(0, .ref k0), (1, .ref h0), (2, .int (nI q))]) (own := RX6) (by decide) rfl rfl (Nat.le_of_ble_eq_true rfl) rfl ?_
  intro K C X _
  have i2 : ∀ w ∈ wsX20, w ∈ wsX6_rating := by decide +kernel
  refine g_aload_n C dX6_rating_0 rfl 0 rfl ?_
  refine g_dup C dX6_rating_1 rfl ?_
  refine g_get C i2 0 rfl rfl 0 (by decide) (List.mem_of_getElem? (i := 1) rfl) rfl rfl dX6_rating_2 ?_
  refine g_lconst C 1 dX6_rating_5 rfl ?_
  refine g_ladd C dX6_rating_6 ?_
  refine g_put C i2 tyX2 tyX2_ok nmX2 0 rfl rfl 0 (by decide) (List.mem_of_getElem? (i := 1) rfl) rfl rfl rfl rfl rfl (Nat.le_of_ble_eq_true rfl) dX6_rating_7 (ws' := [(k0, oB 2 [.long (a + 1)]), (h0, oB 8 [.ref h1]), (h1, iA E 50 f)]) rfl ?_
  refine g_aload_n C dX6_rating_10 rfl 1 rfl ?_
  refine g_iload_n C dX6_rating_11 rfl 2 rfl ?_
  refine g_callV C (rest := []) (n := 1) (kX8_thingsOn l E h0 h1 f q (by omega)) gX6_rating_X8_thingsOn rfl ⟨rfl, rfl⟩ (by decide) (Nat.le_of_ble_eq_true rfl) rfl (by decide +kernel) rfl dX6_rating_12 0 rfl rfl [1, 2] [0] rfl rfl ?_
  refine g_is1 (ws2 := [(k0, oB 2 [.long (a + 1)]), (h0, oB 8 [.ref h1]), (h1, iA E 50 f)]) (st2 := [.int (thOn f q 7)]) [0, 1, 2] rfl rfl rfl ?_
  refine g_callS C (rest := []) (n := 1) (kJ6_bitCount_0f7a4 l E (thOn f q 7) ) gX6_rating_J6_bitCount_0f7a4 rfl ⟨rfl, rfl⟩ (by decide) (Nat.le_of_ble_eq_true rfl) rfl (by decide +kernel) rfl dX6_rating_15 [] [0, 1, 2] rfl rfl ?_
  refine g_is1 (ws2 := [(k0, oB 2 [.long (a + 1)]), (h0, oB 8 [.ref h1]), (h1, iA E 50 f)]) (st2 := [.int (bc (thOn f q 7))]) [0, 1, 2] rfl rfl rfl ?_
  exact g_iret C X dX6_rating_18 (⟨rfl, rfl⟩)

set_option maxHeartbeats 4000000 in
set_option maxRecDepth 100000 in
theorem kX6_rating_3 (l : Launch) (E : EX) (k0 : Nat) (a : Int64) (h0 h1 : Nat) (f : Nat → Int32) (q : Nat) (hq : q < 6) : M l E yX6_rating wsX6_rating { frames := 2, cells := 0, slots := 0, locals := 45 } 0 0 [.ref k0, .ref h0, .int (nI q)] [(k0, oB 3 [.long a]), (h0, oB 8 [.ref h1]), (h1, iA E 50 f)] (is1 (some (.int (rt6 f q))) [(k0, oB 3 [.long (a + 1)]), (h0, oB 8 [.ref h1]), (h1, iA E 50 f)]) := by
  refine M.ofG (cc := cX6_rating) (maxL := 3) (ret := (some .int)) (lv := [(0, .ref k0), (1, .ref h0), (2, .int (nI q))]) (own := RX6) (by decide) rfl rfl (Nat.le_of_ble_eq_true rfl) rfl ?_
  intro K C X _
  have i3 : ∀ w ∈ wsX30, w ∈ wsX6_rating := by decide +kernel
  refine g_aload_n C dX6_rating_0 rfl 0 rfl ?_
  refine g_dup C dX6_rating_1 rfl ?_
  refine g_get C i3 0 rfl rfl 0 (by decide) (List.mem_of_getElem? (i := 1) rfl) rfl rfl dX6_rating_2 ?_
  refine g_lconst C 1 dX6_rating_5 rfl ?_
  refine g_ladd C dX6_rating_6 ?_
  refine g_put C i3 tyX3 tyX3_ok nmX3 0 rfl rfl 0 (by decide) (List.mem_of_getElem? (i := 1) rfl) rfl rfl rfl rfl rfl (Nat.le_of_ble_eq_true rfl) dX6_rating_7 (ws' := [(k0, oB 3 [.long (a + 1)]), (h0, oB 8 [.ref h1]), (h1, iA E 50 f)]) rfl ?_
  refine g_aload_n C dX6_rating_10 rfl 1 rfl ?_
  refine g_iload_n C dX6_rating_11 rfl 2 rfl ?_
  refine g_callV C (rest := []) (n := 1) (kX8_thingsOn l E h0 h1 f q (by omega)) gX6_rating_X8_thingsOn rfl ⟨rfl, rfl⟩ (by decide) (Nat.le_of_ble_eq_true rfl) rfl (by decide +kernel) rfl dX6_rating_12 0 rfl rfl [1, 2] [0] rfl rfl ?_
  refine g_is1 (ws2 := [(k0, oB 3 [.long (a + 1)]), (h0, oB 8 [.ref h1]), (h1, iA E 50 f)]) (st2 := [.int (thOn f q 7)]) [0, 1, 2] rfl rfl rfl ?_
  refine g_callS C (rest := []) (n := 1) (kJ6_bitCount_0f7a4 l E (thOn f q 7) ) gX6_rating_J6_bitCount_0f7a4 rfl ⟨rfl, rfl⟩ (by decide) (Nat.le_of_ble_eq_true rfl) rfl (by decide +kernel) rfl dX6_rating_15 [] [0, 1, 2] rfl rfl ?_
  refine g_is1 (ws2 := [(k0, oB 3 [.long (a + 1)]), (h0, oB 8 [.ref h1]), (h1, iA E 50 f)]) (st2 := [.int (bc (thOn f q 7))]) [0, 1, 2] rfl rfl rfl ?_
  exact g_iret C X dX6_rating_18 (⟨rfl, rfl⟩)

set_option maxHeartbeats 4000000 in
set_option maxRecDepth 100000 in
theorem kX6_rating_4 (l : Launch) (E : EX) (k0 : Nat) (a : Int64) (h0 h1 : Nat) (f : Nat → Int32) (q : Nat) (hq : q < 6) : M l E yX6_rating wsX6_rating { frames := 2, cells := 0, slots := 0, locals := 45 } 0 0 [.ref k0, .ref h0, .int (nI q)] [(k0, oB 4 [.long a]), (h0, oB 8 [.ref h1]), (h1, iA E 50 f)] (is1 (some (.int (rt6 f q))) [(k0, oB 4 [.long (a + 1)]), (h0, oB 8 [.ref h1]), (h1, iA E 50 f)]) := by
  refine M.ofG (cc := cX6_rating) (maxL := 3) (ret := (some .int)) (lv := [(0, .ref k0), (1, .ref h0), (2, .int (nI q))]) (own := RX6) (by decide) rfl rfl (Nat.le_of_ble_eq_true rfl) rfl ?_
  intro K C X _
  have i4 : ∀ w ∈ wsX40, w ∈ wsX6_rating := by decide +kernel
  refine g_aload_n C dX6_rating_0 rfl 0 rfl ?_
  refine g_dup C dX6_rating_1 rfl ?_
  refine g_get C i4 0 rfl rfl 0 (by decide) (List.mem_of_getElem? (i := 1) rfl) rfl rfl dX6_rating_2 ?_
  refine g_lconst C 1 dX6_rating_5 rfl ?_
  refine g_ladd C dX6_rating_6 ?_
  refine g_put C i4 tyX4 tyX4_ok nmX4 0 rfl rfl 0 (by decide) (List.mem_of_getElem? (i := 1) rfl) rfl rfl rfl rfl rfl (Nat.le_of_ble_eq_true rfl) dX6_rating_7 (ws' := [(k0, oB 4 [.long (a + 1)]), (h0, oB 8 [.ref h1]), (h1, iA E 50 f)]) rfl ?_
  refine g_aload_n C dX6_rating_10 rfl 1 rfl ?_
  refine g_iload_n C dX6_rating_11 rfl 2 rfl ?_
  refine g_callV C (rest := []) (n := 1) (kX8_thingsOn l E h0 h1 f q (by omega)) gX6_rating_X8_thingsOn rfl ⟨rfl, rfl⟩ (by decide) (Nat.le_of_ble_eq_true rfl) rfl (by decide +kernel) rfl dX6_rating_12 0 rfl rfl [1, 2] [0] rfl rfl ?_
  refine g_is1 (ws2 := [(k0, oB 4 [.long (a + 1)]), (h0, oB 8 [.ref h1]), (h1, iA E 50 f)]) (st2 := [.int (thOn f q 7)]) [0, 1, 2] rfl rfl rfl ?_
  refine g_callS C (rest := []) (n := 1) (kJ6_bitCount_0f7a4 l E (thOn f q 7) ) gX6_rating_J6_bitCount_0f7a4 rfl ⟨rfl, rfl⟩ (by decide) (Nat.le_of_ble_eq_true rfl) rfl (by decide +kernel) rfl dX6_rating_15 [] [0, 1, 2] rfl rfl ?_
  refine g_is1 (ws2 := [(k0, oB 4 [.long (a + 1)]), (h0, oB 8 [.ref h1]), (h1, iA E 50 f)]) (st2 := [.int (bc (thOn f q 7))]) [0, 1, 2] rfl rfl rfl ?_
  exact g_iret C X dX6_rating_18 (⟨rfl, rfl⟩)

set_option maxHeartbeats 4000000 in
set_option maxRecDepth 100000 in
theorem kX6_rating_5 (l : Launch) (E : EX) (k0 : Nat) (a : Int64) (h0 h1 : Nat) (f : Nat → Int32) (q : Nat) (hq : q < 6) : M l E yX6_rating wsX6_rating { frames := 2, cells := 0, slots := 0, locals := 45 } 0 0 [.ref k0, .ref h0, .int (nI q)] [(k0, oB 5 [.long a]), (h0, oB 8 [.ref h1]), (h1, iA E 50 f)] (is1 (some (.int (rt6 f q))) [(k0, oB 5 [.long (a + 1)]), (h0, oB 8 [.ref h1]), (h1, iA E 50 f)]) := by
  refine M.ofG (cc := cX6_rating) (maxL := 3) (ret := (some .int)) (lv := [(0, .ref k0), (1, .ref h0), (2, .int (nI q))]) (own := RX6) (by decide) rfl rfl (Nat.le_of_ble_eq_true rfl) rfl ?_
  intro K C X _
  have i5 : ∀ w ∈ wsX50, w ∈ wsX6_rating := by decide +kernel
  refine g_aload_n C dX6_rating_0 rfl 0 rfl ?_
  refine g_dup C dX6_rating_1 rfl ?_
  refine g_get C i5 0 rfl rfl 0 (by decide) (List.mem_of_getElem? (i := 1) rfl) rfl rfl dX6_rating_2 ?_
  refine g_lconst C 1 dX6_rating_5 rfl ?_
  refine g_ladd C dX6_rating_6 ?_
  refine g_put C i5 tyX5 tyX5_ok nmX5 0 rfl rfl 0 (by decide) (List.mem_of_getElem? (i := 1) rfl) rfl rfl rfl rfl rfl (Nat.le_of_ble_eq_true rfl) dX6_rating_7 (ws' := [(k0, oB 5 [.long (a + 1)]), (h0, oB 8 [.ref h1]), (h1, iA E 50 f)]) rfl ?_
  refine g_aload_n C dX6_rating_10 rfl 1 rfl ?_
  refine g_iload_n C dX6_rating_11 rfl 2 rfl ?_
  refine g_callV C (rest := []) (n := 1) (kX8_thingsOn l E h0 h1 f q (by omega)) gX6_rating_X8_thingsOn rfl ⟨rfl, rfl⟩ (by decide) (Nat.le_of_ble_eq_true rfl) rfl (by decide +kernel) rfl dX6_rating_12 0 rfl rfl [1, 2] [0] rfl rfl ?_
  refine g_is1 (ws2 := [(k0, oB 5 [.long (a + 1)]), (h0, oB 8 [.ref h1]), (h1, iA E 50 f)]) (st2 := [.int (thOn f q 7)]) [0, 1, 2] rfl rfl rfl ?_
  refine g_callS C (rest := []) (n := 1) (kJ6_bitCount_0f7a4 l E (thOn f q 7) ) gX6_rating_J6_bitCount_0f7a4 rfl ⟨rfl, rfl⟩ (by decide) (Nat.le_of_ble_eq_true rfl) rfl (by decide +kernel) rfl dX6_rating_15 [] [0, 1, 2] rfl rfl ?_
  refine g_is1 (ws2 := [(k0, oB 5 [.long (a + 1)]), (h0, oB 8 [.ref h1]), (h1, iA E 50 f)]) (st2 := [.int (bc (thOn f q 7))]) [0, 1, 2] rfl rfl rfl ?_
  exact g_iret C X dX6_rating_18 (⟨rfl, rfl⟩)

set_option maxHeartbeats 4000000 in
set_option maxRecDepth 100000 in
theorem kX6_rating_6 (l : Launch) (E : EX) (k0 : Nat) (a : Int64) (h0 h1 : Nat) (f : Nat → Int32) (q : Nat) (hq : q < 6) : M l E yX6_rating wsX6_rating { frames := 2, cells := 0, slots := 0, locals := 45 } 0 0 [.ref k0, .ref h0, .int (nI q)] [(k0, oB 6 [.long a]), (h0, oB 8 [.ref h1]), (h1, iA E 50 f)] (is1 (some (.int (rt6 f q))) [(k0, oB 6 [.long (a + 1)]), (h0, oB 8 [.ref h1]), (h1, iA E 50 f)]) := by
  refine M.ofG (cc := cX6_rating) (maxL := 3) (ret := (some .int)) (lv := [(0, .ref k0), (1, .ref h0), (2, .int (nI q))]) (own := RX6) (by decide) rfl rfl (Nat.le_of_ble_eq_true rfl) rfl ?_
  intro K C X _
  have i6 : ∀ w ∈ wsX60, w ∈ wsX6_rating := by decide +kernel
  refine g_aload_n C dX6_rating_0 rfl 0 rfl ?_
  refine g_dup C dX6_rating_1 rfl ?_
  refine g_get C i6 0 rfl rfl 0 (by decide) (List.mem_of_getElem? (i := 1) rfl) rfl rfl dX6_rating_2 ?_
  refine g_lconst C 1 dX6_rating_5 rfl ?_
  refine g_ladd C dX6_rating_6 ?_
  refine g_put C i6 tyX6 tyX6_ok nmX6 0 rfl rfl 0 (by decide) (List.mem_of_getElem? (i := 1) rfl) rfl rfl rfl rfl rfl (Nat.le_of_ble_eq_true rfl) dX6_rating_7 (ws' := [(k0, oB 6 [.long (a + 1)]), (h0, oB 8 [.ref h1]), (h1, iA E 50 f)]) rfl ?_
  refine g_aload_n C dX6_rating_10 rfl 1 rfl ?_
  refine g_iload_n C dX6_rating_11 rfl 2 rfl ?_
  refine g_callV C (rest := []) (n := 1) (kX8_thingsOn l E h0 h1 f q (by omega)) gX6_rating_X8_thingsOn rfl ⟨rfl, rfl⟩ (by decide) (Nat.le_of_ble_eq_true rfl) rfl (by decide +kernel) rfl dX6_rating_12 0 rfl rfl [1, 2] [0] rfl rfl ?_
  refine g_is1 (ws2 := [(k0, oB 6 [.long (a + 1)]), (h0, oB 8 [.ref h1]), (h1, iA E 50 f)]) (st2 := [.int (thOn f q 7)]) [0, 1, 2] rfl rfl rfl ?_
  refine g_callS C (rest := []) (n := 1) (kJ6_bitCount_0f7a4 l E (thOn f q 7) ) gX6_rating_J6_bitCount_0f7a4 rfl ⟨rfl, rfl⟩ (by decide) (Nat.le_of_ble_eq_true rfl) rfl (by decide +kernel) rfl dX6_rating_15 [] [0, 1, 2] rfl rfl ?_
  refine g_is1 (ws2 := [(k0, oB 6 [.long (a + 1)]), (h0, oB 8 [.ref h1]), (h1, iA E 50 f)]) (st2 := [.int (bc (thOn f q 7))]) [0, 1, 2] rfl rfl rfl ?_
  exact g_iret C X dX6_rating_18 (⟨rfl, rfl⟩)

set_option maxHeartbeats 4000000 in
set_option maxRecDepth 100000 in
theorem kX3_rating_3 (l : Launch) (E : EX) (k0 : Nat) (a : Int64) (h0 h1 : Nat) (f : Nat → Int32) (q : Nat) (hq : q < 6) : M l E yX3_rating wsX3_rating { frames := 3, cells := 0, slots := 0, locals := 67 } 0 0 [.ref k0, .ref h0, .int (nI q)] [(k0, oB 3 [.long a]), (h0, oB 8 [.ref h1]), (h1, iA E 50 f)] (is1 (some (.int (rt3 f q))) [(k0, oB 3 [.long (a + 10 + 1)]), (h0, oB 8 [.ref h1]), (h1, iA E 50 f)]) := by
  refine M.ofG (cc := cX3_rating) (maxL := 3) (ret := (some .int)) (lv := [(0, .ref k0), (1, .ref h0), (2, .int (nI q))]) (own := RX3) (by decide) rfl rfl (Nat.le_of_ble_eq_true rfl) rfl ?_
  intro K C X _
  have i3 : ∀ w ∈ wsX30, w ∈ wsX3_rating := by decide +kernel
  refine g_aload_n C dX3_rating_0 rfl 0 rfl ?_
  refine g_dup C dX3_rating_1 rfl ?_
  refine g_getS C i3 0 rfl rfl 0 (by decide) (List.mem_of_getElem? (i := 1) rfl) (List.mem_of_getElem? (i := 2) rfl) rfl dX3_rating_2 ?_
  refine g_ldc2 C (v := 10) (List.mem_of_getElem? (i := 3) rfl) dX3_rating_5 ?_
  refine g_ladd C dX3_rating_8 ?_
  refine g_putS C i3 tyX3 tyX3_ok nmX3 0 rfl rfl 0 (by decide) (List.mem_of_getElem? (i := 1) rfl) (List.mem_of_getElem? (i := 2) rfl) rfl rfl rfl rfl (Nat.le_of_ble_eq_true rfl) dX3_rating_9 (ws' := [(k0, oB 3 [.long (a + 10)]), (h0, oB 8 [.ref h1]), (h1, iA E 50 f)]) rfl ?_
  refine g_aload_n C dX3_rating_12 rfl 0 rfl ?_
  refine g_aload_n C dX3_rating_13 rfl 1 rfl ?_
  refine g_iload_n C dX3_rating_14 rfl 2 rfl ?_
  refine g_callSU C (rest := []) (n := 2) (kX6_rating_3 l E k0 (a + 10) h0 h1 f q (by omega)) gX3_rating_X6_rating_s17 rfl ⟨rfl, rfl⟩ (by decide) (Nat.le_of_ble_eq_true rfl) rfl (by decide +kernel) rfl dX3_rating_15 0 rfl rfl [0, 1, 2] [] rfl rfl ?_
  refine g_is1 (ws2 := [(k0, oB 3 [.long ((a + 10) + 1)]), (h0, oB 8 [.ref h1]), (h1, iA E 50 f)]) (st2 := [.int (rt6 f q)]) [0, 1, 2] rfl rfl rfl ?_
  refine g_aload_n C dX3_rating_18 rfl 1 rfl ?_
  refine g_iload_n C dX3_rating_19 rfl 2 rfl ?_
  refine g_bipush C (nI 127) dX3_rating_20 (by decide) ?_
  refine g_callV C (rest := [.int (rt6 f q)]) (n := 2) (kX8_timesOn l E h0 h1 f q (nI 127) (by omega)) gX3_rating_X8_timesOn rfl ⟨rfl, rfl⟩ (by decide) (Nat.le_of_ble_eq_true rfl) rfl (by decide +kernel) rfl dX3_rating_22 0 rfl rfl [1, 2] [0] rfl rfl ?_
  refine g_is1 (ws2 := [(k0, oB 3 [.long ((a + 10) + 1)]), (h0, oB 8 [.ref h1]), (h1, iA E 50 f)]) (st2 := [.int (tiOn f q (nI 127) 7), .int (rt6 f q)]) [0, 1, 2] rfl rfl rfl ?_
  refine g_iadd C dX3_rating_25 ?_
  exact g_iret C X dX3_rating_26 (⟨rfl, by simp []⟩)

set_option maxHeartbeats 4000000 in
set_option maxRecDepth 100000 in
theorem kX3_rating_4 (l : Launch) (E : EX) (k0 : Nat) (a : Int64) (h0 h1 : Nat) (f : Nat → Int32) (q : Nat) (hq : q < 6) : M l E yX3_rating wsX3_rating { frames := 3, cells := 0, slots := 0, locals := 67 } 0 0 [.ref k0, .ref h0, .int (nI q)] [(k0, oB 4 [.long a]), (h0, oB 8 [.ref h1]), (h1, iA E 50 f)] (is1 (some (.int (rt3 f q))) [(k0, oB 4 [.long (a + 10 + 1)]), (h0, oB 8 [.ref h1]), (h1, iA E 50 f)]) := by
  refine M.ofG (cc := cX3_rating) (maxL := 3) (ret := (some .int)) (lv := [(0, .ref k0), (1, .ref h0), (2, .int (nI q))]) (own := RX3) (by decide) rfl rfl (Nat.le_of_ble_eq_true rfl) rfl ?_
  intro K C X _
  have i4 : ∀ w ∈ wsX40, w ∈ wsX3_rating := by decide +kernel
  refine g_aload_n C dX3_rating_0 rfl 0 rfl ?_
  refine g_dup C dX3_rating_1 rfl ?_
  refine g_getS C i4 0 rfl rfl 0 (by decide) (List.mem_of_getElem? (i := 1) rfl) (List.mem_of_getElem? (i := 2) rfl) rfl dX3_rating_2 ?_
  refine g_ldc2 C (v := 10) (List.mem_of_getElem? (i := 3) rfl) dX3_rating_5 ?_
  refine g_ladd C dX3_rating_8 ?_
  refine g_putS C i4 tyX4 tyX4_ok nmX4 0 rfl rfl 0 (by decide) (List.mem_of_getElem? (i := 1) rfl) (List.mem_of_getElem? (i := 2) rfl) rfl rfl rfl rfl (Nat.le_of_ble_eq_true rfl) dX3_rating_9 (ws' := [(k0, oB 4 [.long (a + 10)]), (h0, oB 8 [.ref h1]), (h1, iA E 50 f)]) rfl ?_
  refine g_aload_n C dX3_rating_12 rfl 0 rfl ?_
  refine g_aload_n C dX3_rating_13 rfl 1 rfl ?_
  refine g_iload_n C dX3_rating_14 rfl 2 rfl ?_
  refine g_callSU C (rest := []) (n := 2) (kX6_rating_4 l E k0 (a + 10) h0 h1 f q (by omega)) gX3_rating_X6_rating_s17 rfl ⟨rfl, rfl⟩ (by decide) (Nat.le_of_ble_eq_true rfl) rfl (by decide +kernel) rfl dX3_rating_15 0 rfl rfl [0, 1, 2] [] rfl rfl ?_
  refine g_is1 (ws2 := [(k0, oB 4 [.long ((a + 10) + 1)]), (h0, oB 8 [.ref h1]), (h1, iA E 50 f)]) (st2 := [.int (rt6 f q)]) [0, 1, 2] rfl rfl rfl ?_
  refine g_aload_n C dX3_rating_18 rfl 1 rfl ?_
  refine g_iload_n C dX3_rating_19 rfl 2 rfl ?_
  refine g_bipush C (nI 127) dX3_rating_20 (by decide) ?_
  refine g_callV C (rest := [.int (rt6 f q)]) (n := 2) (kX8_timesOn l E h0 h1 f q (nI 127) (by omega)) gX3_rating_X8_timesOn rfl ⟨rfl, rfl⟩ (by decide) (Nat.le_of_ble_eq_true rfl) rfl (by decide +kernel) rfl dX3_rating_22 0 rfl rfl [1, 2] [0] rfl rfl ?_
  refine g_is1 (ws2 := [(k0, oB 4 [.long ((a + 10) + 1)]), (h0, oB 8 [.ref h1]), (h1, iA E 50 f)]) (st2 := [.int (tiOn f q (nI 127) 7), .int (rt6 f q)]) [0, 1, 2] rfl rfl rfl ?_
  refine g_iadd C dX3_rating_25 ?_
  exact g_iret C X dX3_rating_26 (⟨rfl, by simp []⟩)

set_option maxHeartbeats 4000000 in
set_option maxRecDepth 100000 in
theorem kX2_rating_2 (l : Launch) (E : EX) (k0 : Nat) (a : Int64) (h0 h1 : Nat) (f : Nat → Int32) (q : Nat) (hq : q < 6) : M l E yX2_rating wsX2_rating { frames := 3, cells := 0, slots := 0, locals := 67 } 0 0 [.ref k0, .ref h0, .int (nI q)] [(k0, oB 2 [.long a]), (h0, oB 8 [.ref h1]), (h1, iA E 50 f)] (is1 (some (.int (rt2 f q))) [(k0, oB 2 [.long (a + 100 + 1)]), (h0, oB 8 [.ref h1]), (h1, iA E 50 f)]) := by
  refine M.ofG (cc := cX2_rating) (maxL := 3) (ret := (some .int)) (lv := [(0, .ref k0), (1, .ref h0), (2, .int (nI q))]) (own := RX2) (by decide) rfl rfl (Nat.le_of_ble_eq_true rfl) rfl ?_
  intro K C X _
  have i2 : ∀ w ∈ wsX20, w ∈ wsX2_rating := by decide +kernel
  refine g_aload_n C dX2_rating_0 rfl 0 rfl ?_
  refine g_dup C dX2_rating_1 rfl ?_
  refine g_getS C i2 0 rfl rfl 0 (by decide) (List.mem_of_getElem? (i := 1) rfl) (List.mem_of_getElem? (i := 2) rfl) rfl dX2_rating_2 ?_
  refine g_ldc2 C (v := 100) (List.mem_of_getElem? (i := 3) rfl) dX2_rating_5 ?_
  refine g_ladd C dX2_rating_8 ?_
  refine g_putS C i2 tyX2 tyX2_ok nmX2 0 rfl rfl 0 (by decide) (List.mem_of_getElem? (i := 1) rfl) (List.mem_of_getElem? (i := 2) rfl) rfl rfl rfl rfl (Nat.le_of_ble_eq_true rfl) dX2_rating_9 (ws' := [(k0, oB 2 [.long (a + 100)]), (h0, oB 8 [.ref h1]), (h1, iA E 50 f)]) rfl ?_
  refine g_aload_n C dX2_rating_12 rfl 0 rfl ?_
  refine g_aload_n C dX2_rating_13 rfl 1 rfl ?_
  refine g_iload_n C dX2_rating_14 rfl 2 rfl ?_
  refine g_callSU C (rest := []) (n := 2) (kX6_rating_2 l E k0 (a + 100) h0 h1 f q (by omega)) gX2_rating_X6_rating_s15 rfl ⟨rfl, rfl⟩ (by decide) (Nat.le_of_ble_eq_true rfl) rfl (by decide +kernel) rfl dX2_rating_15 0 rfl rfl [0, 1, 2] [] rfl rfl ?_
  refine g_is1 (ws2 := [(k0, oB 2 [.long ((a + 100) + 1)]), (h0, oB 8 [.ref h1]), (h1, iA E 50 f)]) (st2 := [.int (rt6 f q)]) [0, 1, 2] rfl rfl rfl ?_
  refine g_aload_n C dX2_rating_18 rfl 1 rfl ?_
  refine g_iload_n C dX2_rating_19 rfl 2 rfl ?_
  refine g_callV C (rest := [.int (rt6 f q)]) (n := 1) (kX8_sleepersOn l E h0 h1 f q ) gX2_rating_X8_sleepersOn rfl ⟨rfl, rfl⟩ (by decide) (Nat.le_of_ble_eq_true rfl) rfl (by decide +kernel) rfl dX2_rating_20 0 rfl rfl [1, 2] [0] rfl rfl ?_
  refine g_is1 (ws2 := [(k0, oB 2 [.long ((a + 100) + 1)]), (h0, oB 8 [.ref h1]), (h1, iA E 50 f)]) (st2 := [.int (slOn f q 6), .int (rt6 f q)]) [0, 1, 2] rfl rfl rfl ?_
  refine g_callS C (rest := [.int (rt6 f q)]) (n := 1) (kJ6_bitCount_0f7a4 l E (slOn f q 6) ) gX2_rating_J6_bitCount_0f7a4 rfl ⟨rfl, rfl⟩ (by decide) (Nat.le_of_ble_eq_true rfl) rfl (by decide +kernel) rfl dX2_rating_23 [] [0, 1, 2] rfl rfl ?_
  refine g_is1 (ws2 := [(k0, oB 2 [.long ((a + 100) + 1)]), (h0, oB 8 [.ref h1]), (h1, iA E 50 f)]) (st2 := [.int (bc (slOn f q 6)), .int (rt6 f q)]) [0, 1, 2] rfl rfl rfl ?_
  refine g_isub C dX2_rating_26 ?_
  exact g_iret C X dX2_rating_27 (⟨rfl, by simp []⟩)

set_option maxHeartbeats 4000000 in
set_option maxRecDepth 100000 in
theorem kX2_rating_5 (l : Launch) (E : EX) (k0 : Nat) (a : Int64) (h0 h1 : Nat) (f : Nat → Int32) (q : Nat) (hq : q < 6) : M l E yX2_rating wsX2_rating { frames := 3, cells := 0, slots := 0, locals := 67 } 0 0 [.ref k0, .ref h0, .int (nI q)] [(k0, oB 5 [.long a]), (h0, oB 8 [.ref h1]), (h1, iA E 50 f)] (is1 (some (.int (rt2 f q))) [(k0, oB 5 [.long (a + 100 + 1)]), (h0, oB 8 [.ref h1]), (h1, iA E 50 f)]) := by
  refine M.ofG (cc := cX2_rating) (maxL := 3) (ret := (some .int)) (lv := [(0, .ref k0), (1, .ref h0), (2, .int (nI q))]) (own := RX2) (by decide) rfl rfl (Nat.le_of_ble_eq_true rfl) rfl ?_
  intro K C X _
  have i5 : ∀ w ∈ wsX50, w ∈ wsX2_rating := by decide +kernel
  refine g_aload_n C dX2_rating_0 rfl 0 rfl ?_
  refine g_dup C dX2_rating_1 rfl ?_
  refine g_getS C i5 0 rfl rfl 0 (by decide) (List.mem_of_getElem? (i := 1) rfl) (List.mem_of_getElem? (i := 2) rfl) rfl dX2_rating_2 ?_
  refine g_ldc2 C (v := 100) (List.mem_of_getElem? (i := 3) rfl) dX2_rating_5 ?_
  refine g_ladd C dX2_rating_8 ?_
  refine g_putS C i5 tyX5 tyX5_ok nmX5 0 rfl rfl 0 (by decide) (List.mem_of_getElem? (i := 1) rfl) (List.mem_of_getElem? (i := 2) rfl) rfl rfl rfl rfl (Nat.le_of_ble_eq_true rfl) dX2_rating_9 (ws' := [(k0, oB 5 [.long (a + 100)]), (h0, oB 8 [.ref h1]), (h1, iA E 50 f)]) rfl ?_
  refine g_aload_n C dX2_rating_12 rfl 0 rfl ?_
  refine g_aload_n C dX2_rating_13 rfl 1 rfl ?_
  refine g_iload_n C dX2_rating_14 rfl 2 rfl ?_
  refine g_callSU C (rest := []) (n := 2) (kX6_rating_5 l E k0 (a + 100) h0 h1 f q (by omega)) gX2_rating_X6_rating_s15 rfl ⟨rfl, rfl⟩ (by decide) (Nat.le_of_ble_eq_true rfl) rfl (by decide +kernel) rfl dX2_rating_15 0 rfl rfl [0, 1, 2] [] rfl rfl ?_
  refine g_is1 (ws2 := [(k0, oB 5 [.long ((a + 100) + 1)]), (h0, oB 8 [.ref h1]), (h1, iA E 50 f)]) (st2 := [.int (rt6 f q)]) [0, 1, 2] rfl rfl rfl ?_
  refine g_aload_n C dX2_rating_18 rfl 1 rfl ?_
  refine g_iload_n C dX2_rating_19 rfl 2 rfl ?_
  refine g_callV C (rest := [.int (rt6 f q)]) (n := 1) (kX8_sleepersOn l E h0 h1 f q ) gX2_rating_X8_sleepersOn rfl ⟨rfl, rfl⟩ (by decide) (Nat.le_of_ble_eq_true rfl) rfl (by decide +kernel) rfl dX2_rating_20 0 rfl rfl [1, 2] [0] rfl rfl ?_
  refine g_is1 (ws2 := [(k0, oB 5 [.long ((a + 100) + 1)]), (h0, oB 8 [.ref h1]), (h1, iA E 50 f)]) (st2 := [.int (slOn f q 6), .int (rt6 f q)]) [0, 1, 2] rfl rfl rfl ?_
  refine g_callS C (rest := [.int (rt6 f q)]) (n := 1) (kJ6_bitCount_0f7a4 l E (slOn f q 6) ) gX2_rating_J6_bitCount_0f7a4 rfl ⟨rfl, rfl⟩ (by decide) (Nat.le_of_ble_eq_true rfl) rfl (by decide +kernel) rfl dX2_rating_23 [] [0, 1, 2] rfl rfl ?_
  refine g_is1 (ws2 := [(k0, oB 5 [.long ((a + 100) + 1)]), (h0, oB 8 [.ref h1]), (h1, iA E 50 f)]) (st2 := [.int (bc (slOn f q 6)), .int (rt6 f q)]) [0, 1, 2] rfl rfl rfl ?_
  refine g_isub C dX2_rating_26 ?_
  exact g_iret C X dX2_rating_27 (⟨rfl, by simp []⟩)

set_option maxHeartbeats 4000000 in
set_option maxRecDepth 100000 in
theorem kX4_rating (l : Launch) (E : EX) (k0 : Nat) (a : Int64) (h0 h1 : Nat) (f : Nat → Int32) (q : Nat) (hq : q < 6) : M l E yX4_rating wsX4_rating { frames := 4, cells := 0, slots := 0, locals := 89 } 0 0 [.ref k0, .ref h0, .int (nI q)] [(k0, oB 4 [.long a]), (h0, oB 8 [.ref h1]), (h1, iA E 50 f)] (is1 (some (.int (nI 2 * rt3 f q))) [(k0, oB 4 [.long (a + 1000 + 10 + 1)]), (h0, oB 8 [.ref h1]), (h1, iA E 50 f)]) := by
  refine M.ofG (cc := cX4_rating) (maxL := 3) (ret := (some .int)) (lv := [(0, .ref k0), (1, .ref h0), (2, .int (nI q))]) (own := RX4) (by decide) rfl rfl (Nat.le_of_ble_eq_true rfl) rfl ?_
  intro K C X _
  have i4 : ∀ w ∈ wsX40, w ∈ wsX4_rating := by decide +kernel
  refine g_aload_n C dX4_rating_0 rfl 0 rfl ?_
  refine g_dup C dX4_rating_1 rfl ?_
  refine g_getS C i4 0 rfl rfl 0 (by decide) (List.mem_of_getElem? (i := 1) rfl) (List.mem_of_getElem? (i := 2) rfl) rfl dX4_rating_2 ?_
  refine g_ldc2 C (v := 1000) (List.mem_of_getElem? (i := 3) rfl) dX4_rating_5 ?_
  refine g_ladd C dX4_rating_8 ?_
  refine g_putS C i4 tyX4 tyX4_ok nmX4 0 rfl rfl 0 (by decide) (List.mem_of_getElem? (i := 1) rfl) (List.mem_of_getElem? (i := 2) rfl) rfl rfl rfl rfl (Nat.le_of_ble_eq_true rfl) dX4_rating_9 (ws' := [(k0, oB 4 [.long (a + 1000)]), (h0, oB 8 [.ref h1]), (h1, iA E 50 f)]) rfl ?_
  refine g_iconst C (nI 2) dX4_rating_12 (by decide) ?_
  refine g_aload_n C dX4_rating_13 rfl 0 rfl ?_
  refine g_aload_n C dX4_rating_14 rfl 1 rfl ?_
  refine g_iload_n C dX4_rating_15 rfl 2 rfl ?_
  refine g_callSU C (rest := [.int (nI 2)]) (n := 2) (kX3_rating_4 l E k0 (a + 1000) h0 h1 f q (by omega)) gX4_rating_X3_rating_s15 rfl ⟨rfl, rfl⟩ (by decide) (Nat.le_of_ble_eq_true rfl) rfl (by decide +kernel) rfl dX4_rating_16 0 rfl rfl [0, 1, 2] [] rfl rfl ?_
  refine g_is1 (ws2 := [(k0, oB 4 [.long ((a + 1000) + 10 + 1)]), (h0, oB 8 [.ref h1]), (h1, iA E 50 f)]) (st2 := [.int (rt3 f q), .int (nI 2)]) [0, 1, 2] rfl rfl rfl ?_
  refine g_imul C dX4_rating_19 ?_
  exact g_iret C X dX4_rating_20 (⟨rfl, by simp []⟩)

set_option maxHeartbeats 4000000 in
set_option maxRecDepth 100000 in
theorem kX5_rating (l : Launch) (E : EX) (k0 : Nat) (a : Int64) (h0 h1 : Nat) (f : Nat → Int32) (q : Nat) (hq : q < 6) : M l E yX5_rating wsX5_rating { frames := 4, cells := 0, slots := 0, locals := 89 } 0 0 [.ref k0, .ref h0, .int (nI q)] [(k0, oB 5 [.long a]), (h0, oB 8 [.ref h1]), (h1, iA E 50 f)] (is1 (some (.int (rt2 f q + nI q))) [(k0, oB 5 [.long (a + 10000 + 100 + 1)]), (h0, oB 8 [.ref h1]), (h1, iA E 50 f)]) := by
  refine M.ofG (cc := cX5_rating) (maxL := 3) (ret := (some .int)) (lv := [(0, .ref k0), (1, .ref h0), (2, .int (nI q))]) (own := RX5) (by decide) rfl rfl (Nat.le_of_ble_eq_true rfl) rfl ?_
  intro K C X _
  have i5 : ∀ w ∈ wsX50, w ∈ wsX5_rating := by decide +kernel
  refine g_aload_n C dX5_rating_0 rfl 0 rfl ?_
  refine g_dup C dX5_rating_1 rfl ?_
  refine g_getS C i5 0 rfl rfl 0 (by decide) (List.mem_of_getElem? (i := 1) rfl) (List.mem_of_getElem? (i := 2) rfl) rfl dX5_rating_2 ?_
  refine g_ldc2 C (v := 10000) (List.mem_of_getElem? (i := 3) rfl) dX5_rating_5 ?_
  refine g_ladd C dX5_rating_8 ?_
  refine g_putS C i5 tyX5 tyX5_ok nmX5 0 rfl rfl 0 (by decide) (List.mem_of_getElem? (i := 1) rfl) (List.mem_of_getElem? (i := 2) rfl) rfl rfl rfl rfl (Nat.le_of_ble_eq_true rfl) dX5_rating_9 (ws' := [(k0, oB 5 [.long (a + 10000)]), (h0, oB 8 [.ref h1]), (h1, iA E 50 f)]) rfl ?_
  refine g_aload_n C dX5_rating_12 rfl 0 rfl ?_
  refine g_aload_n C dX5_rating_13 rfl 1 rfl ?_
  refine g_iload_n C dX5_rating_14 rfl 2 rfl ?_
  refine g_callSU C (rest := []) (n := 2) (kX2_rating_5 l E k0 (a + 10000) h0 h1 f q (by omega)) gX5_rating_X2_rating_s15 rfl ⟨rfl, rfl⟩ (by decide) (Nat.le_of_ble_eq_true rfl) rfl (by decide +kernel) rfl dX5_rating_15 0 rfl rfl [0, 1, 2] [] rfl rfl ?_
  refine g_is1 (ws2 := [(k0, oB 5 [.long ((a + 10000) + 100 + 1)]), (h0, oB 8 [.ref h1]), (h1, iA E 50 f)]) (st2 := [.int (rt2 f q)]) [0, 1, 2] rfl rfl rfl ?_
  refine g_iload_n C dX5_rating_18 rfl 2 rfl ?_
  refine g_iadd C dX5_rating_19 ?_
  exact g_iret C X dX5_rating_20 (⟨rfl, by simp []⟩)

set_option maxHeartbeats 4000000 in
set_option maxRecDepth 100000 in
theorem kX1_rating (l : Launch) (E : EX) (k0 : Nat) (a : Int64) (h0 h1 : Nat) (f : Nat → Int32) (q : Nat) (hq : q < 6) : M l E yX1_rating wsX1_rating { frames := 3, cells := 0, slots := 0, locals := 67 } 0 0 [.ref k0, .ref h0, .int (nI q)] [(k0, oB 1 [.long a]), (h0, oB 8 [.ref h1]), (h1, iA E 50 f)] (is1 (some (.int (rt6 f q + f 49))) [(k0, oB 1 [.long (a + 100000 + 1)]), (h0, oB 8 [.ref h1]), (h1, iA E 50 f)]) := by
  refine M.ofG (cc := cX1_rating) (maxL := 3) (ret := (some .int)) (lv := [(0, .ref k0), (1, .ref h0), (2, .int (nI q))]) (own := RX1) (by decide) rfl rfl (Nat.le_of_ble_eq_true rfl) rfl ?_
  intro K C X _
  have i1 : ∀ w ∈ wsX10, w ∈ wsX1_rating := by decide +kernel
  refine g_aload_n C dX1_rating_0 rfl 0 rfl ?_
  refine g_dup C dX1_rating_1 rfl ?_
  refine g_getS C i1 0 rfl rfl 0 (by decide) (List.mem_of_getElem? (i := 1) rfl) (List.mem_of_getElem? (i := 2) rfl) rfl dX1_rating_2 ?_
  refine g_ldc2 C (v := 100000) (List.mem_of_getElem? (i := 3) rfl) dX1_rating_5 ?_
  refine g_ladd C dX1_rating_8 ?_
  refine g_putS C i1 tyX1 tyX1_ok nmX1 0 rfl rfl 0 (by decide) (List.mem_of_getElem? (i := 1) rfl) (List.mem_of_getElem? (i := 2) rfl) rfl rfl rfl rfl (Nat.le_of_ble_eq_true rfl) dX1_rating_9 (ws' := [(k0, oB 1 [.long (a + 100000)]), (h0, oB 8 [.ref h1]), (h1, iA E 50 f)]) rfl ?_
  refine g_aload_n C dX1_rating_12 rfl 0 rfl ?_
  refine g_aload_n C dX1_rating_13 rfl 1 rfl ?_
  refine g_iload_n C dX1_rating_14 rfl 2 rfl ?_
  refine g_callSU C (rest := []) (n := 2) (kX6_rating_1 l E k0 (a + 100000) h0 h1 f q (by omega)) gX1_rating_X6_rating_s15 rfl ⟨rfl, rfl⟩ (by decide) (Nat.le_of_ble_eq_true rfl) rfl (by decide +kernel) rfl dX1_rating_15 0 rfl rfl [0, 1, 2] [] rfl rfl ?_
  refine g_is1 (ws2 := [(k0, oB 1 [.long ((a + 100000) + 1)]), (h0, oB 8 [.ref h1]), (h1, iA E 50 f)]) (st2 := [.int (rt6 f q)]) [0, 1, 2] rfl rfl rfl ?_
  refine g_aload_n C dX1_rating_18 rfl 1 rfl ?_
  refine g_callV C (rest := [.int (rt6 f q)]) (n := 0) (kX8_nightNumber l E h0 h1 f ) gX1_rating_X8_nightNumber rfl ⟨rfl, rfl⟩ (by decide) (Nat.le_of_ble_eq_true rfl) rfl (by decide +kernel) rfl dX1_rating_19 0 rfl rfl [1, 2] [0] rfl rfl ?_
  refine g_is1 (ws2 := [(k0, oB 1 [.long ((a + 100000) + 1)]), (h0, oB 8 [.ref h1]), (h1, iA E 50 f)]) (st2 := [.int (f 49), .int (rt6 f q)]) [0, 1, 2] rfl rfl rfl ?_
  refine g_iadd C dX1_rating_22 ?_
  exact g_iret C X dX1_rating_23 (⟨rfl, by simp []⟩)
