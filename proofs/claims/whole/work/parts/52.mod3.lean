/-! ===== Int32 by its bits: bt x i ===== -/
def bt (x : Int32) (i : Nat) : Bool := x.toBitVec.getLsbD i
theorem b_ext {x y : Int32} (h : ∀ i, i < 32 → bt x i = bt y i) : x = y := Int32.toBitVec_inj.mp (BitVec.eq_of_getLsbD_eq (fun i hi => h i hi))
theorem b_or (x y : Int32) (i : Nat) : bt (x ||| y) i = (bt x i || bt y i) := by unfold bt; rw [Int32.toBitVec_or, BitVec.getLsbD_or]
theorem b_and (x y : Int32) (i : Nat) : bt (x &&& y) i = (bt x i && bt y i) := by unfold bt; rw [Int32.toBitVec_and, BitVec.getLsbD_and]
theorem b_xor (x y : Int32) (i : Nat) : bt (x ^^^ y) i = (bt x i ^^ bt y i) := by unfold bt; rw [Int32.toBitVec_xor, BitVec.getLsbD_xor]
theorem b_big {x : Int32} {i : Nat} (h : 32 ≤ i) : bt x i = false := BitVec.getLsbD_of_ge _ _ h
theorem b_255 (i : Nat) : bt 255 i = decide (i < 8) := by
  rcases Nat.lt_or_ge i 32 with h | h
  · exact (by decide +kernel : ∀ i, i < 32 → bt 255 i = decide (i < 8)) i h
  · rw [b_big h, decide_eq_false (by omega)]
theorem b_65535 (i : Nat) : bt 65535 i = decide (i < 16) := by
  rcases Nat.lt_or_ge i 32 with h | h
  · exact (by decide +kernel : ∀ i, i < 32 → bt 65535 i = decide (i < 16)) i h
  · rw [b_big h, decide_eq_false (by omega)]
theorem b_m1 : ∀ i, i < 32 → bt (-1) i = true := by decide +kernel
theorem b_0 (i : Nat) : bt 0 i = false := BitVec.getLsbD_zero
theorem s_l : ∀ n, n < 32 → ((nI n &&& 31).toBitVec.smod 32).toNat = n := by decide +kernel
theorem s_u : ∀ n, n < 32 → (((nI n).toUInt32 &&& Int32.toUInt32 31).toBitVec % 32).toNat = n := by decide +kernel
theorem b_shl (n : Nat) (hn : n < 32) (x : Int32) {i : Nat} (hi : i < 32) : bt (x <<< (nI n &&& 31)) i = (decide (n ≤ i) && bt x (i - n)) := by
  unfold bt
  rw [Int32.toBitVec_shiftLeft]
  show (x.toBitVec <<< ((nI n &&& 31).toBitVec.smod 32).toNat).getLsbD i = _
  rw [s_l n hn, BitVec.getLsbD_shiftLeft]
  rcases Nat.lt_or_ge i n with h | h
  · simp [h, Nat.not_le.mpr h]
  · simp [hi, h, Nat.not_lt.mpr h]
theorem b_ushr (n : Nat) (hn : n < 32) (x : Int32) (i : Nat) : bt ((x.toUInt32 >>> ((nI n).toUInt32 &&& Int32.toUInt32 31)).toInt32) i = bt x (n + i) := by
  show (x.toUInt32 >>> ((nI n).toUInt32 &&& Int32.toUInt32 31)).toBitVec.getLsbD i = x.toUInt32.toBitVec.getLsbD (n + i)
  rw [UInt32.toBitVec_shiftRight]
  show (x.toUInt32.toBitVec >>> (((nI n).toUInt32 &&& Int32.toUInt32 31).toBitVec % 32).toNat).getLsbD i = _
  rw [s_u n hn, BitVec.getLsbD_ushiftRight]
theorem b_sshr (n : Nat) (hn : n < 32) (x : Int32) {i : Nat} (hi : i < 32) : bt (x >>> (nI n &&& 31)) i = if n + i < 32 then bt x (n + i) else bt x 31 := by
  unfold bt
  rw [Int32.toBitVec_shiftRight]
  show (x.toBitVec.sshiftRight ((nI n &&& 31).toBitVec.smod 32).toNat).getLsbD i = _
  rw [s_l n hn, BitVec.getLsbD_sshiftRight, BitVec.msb_eq_getLsbD_last]
  simp [hi]
theorem b_shl8 (x : Int32) {i : Nat} (hi : i < 32) : bt (x <<< ((8 : Int32) &&& 31)) i = (decide (8 ≤ i) && bt x (i - 8)) := b_shl 8 (by omega) x hi
theorem b_shl16 (x : Int32) {i : Nat} (hi : i < 32) : bt (x <<< ((16 : Int32) &&& 31)) i = (decide (16 ≤ i) && bt x (i - 16)) := b_shl 16 (by omega) x hi
theorem b_shl24 (x : Int32) {i : Nat} (hi : i < 32) : bt (x <<< ((24 : Int32) &&& 31)) i = (decide (24 ≤ i) && bt x (i - 24)) := b_shl 24 (by omega) x hi
theorem b_sshr8 (x : Int32) {i : Nat} (hi : i < 32) : bt (x >>> ((8 : Int32) &&& 31)) i = if 8 + i < 32 then bt x (8 + i) else bt x 31 := b_sshr 8 (by omega) x hi

/-! words out of bytes -/
theorem shl_or (n : Nat) (hn : n < 32) (x y : Int32) : (x ||| y) <<< (nI n &&& 31) = (x <<< (nI n &&& 31)) ||| (y <<< (nI n &&& 31)) := by
  apply b_ext
  intro i hi
  rw [b_shl n hn _ hi, b_or, b_or, b_shl n hn _ hi, b_shl n hn _ hi, Bool.and_or_distrib_left]
theorem shl_shl (n m : Nat) (h : n + m < 32) (x : Int32) : (x <<< (nI n &&& 31)) <<< (nI m &&& 31) = x <<< (nI (n + m) &&& 31) := by
  apply b_ext
  intro i hi
  rw [b_shl m (by omega) _ hi, b_shl n (by omega) _ (by omega), b_shl (n + m) h _ hi]
  by_cases c : n + m ≤ i
  · rw [decide_eq_true (show m ≤ i by omega), decide_eq_true (show n ≤ i - m by omega), decide_eq_true c, Bool.true_and, Bool.true_and, Bool.true_and]
    congr 1
    omega
  · rw [decide_eq_false c, Bool.false_and]
    by_cases d : m ≤ i
    · rw [decide_eq_false (show ¬ n ≤ i - m by omega), Bool.false_and, Bool.and_false]
    · rw [decide_eq_false d, Bool.false_and]
theorem zero_or (x : Int32) : (0 : Int32) ||| x = x := by
  apply b_ext
  intro i hi
  rw [b_or, b_0, Bool.false_or]
theorem zero_shl (n : Nat) (hn : n < 32) : (0 : Int32) <<< (nI n &&& 31) = 0 := by
  apply b_ext
  intro i hi
  rw [b_shl n hn _ hi, b_0, b_0, Bool.and_false]
theorem shl_0 (x : Int32) : x <<< (nI 0 &&& 31) = x := by
  apply b_ext
  intro i hi
  rw [b_shl 0 (by omega) _ hi, decide_eq_true (Nat.zero_le i), Bool.true_and, Nat.sub_zero]
theorem or4 (D C B a : Int32) : ((D ||| C) ||| B) ||| a = ((a ||| B) ||| C) ||| D := by
  apply b_ext
  intro i hi
  rw [b_or, b_or, b_or, b_or, b_or, b_or]
  cases bt D i <;> cases bt C i <;> cases bt B i <;> cases bt a i <;> rfl
def m4w (a b c d : Int32) : Int32 := (((0 ||| (a <<< (nI 0 &&& 31))) ||| (b <<< (nI 8 &&& 31))) ||| (c <<< (nI 16 &&& 31))) ||| (d <<< (nI 24 &&& 31))
theorem w4_eq (a b c d : Int32) : w4 a b c d = m4w a b c d := by
  have e8 : ((8 : Int32) &&& 31) = (nI 8 &&& 31) := rfl
  unfold w4 m4w
  have h1 : ∀ z : Int32, (z <<< (nI 8 &&& 31)) <<< (nI 8 &&& 31) = z <<< (nI 16 &&& 31) := fun z => shl_shl 8 8 (by omega) z
  have h2 : ∀ z : Int32, (z <<< (nI 16 &&& 31)) <<< (nI 8 &&& 31) = z <<< (nI 24 &&& 31) := fun z => shl_shl 16 8 (by omega) z
  rw [e8, zero_shl 8 (by omega), zero_or]
  repeat rw [shl_or 8 (by omega)]
  rw [h1 d, h1 c, h2 d, shl_0, zero_or]
  exact or4 _ _ _ _
theorem mWp_lo {g : Nat → Int32} {j : Nat} : ∀ i, i ≤ 4 * j → mWp g i j = 0 := by
  intro i
  induction i with
  | zero => intro _; rfl
  | succ i ih =>
    intro h
    show (if j = i / 4 then _ else mWp g i j) = 0
    rw [if_neg (by omega), ih (by omega)]
theorem mWp_s {g : Nat → Int32} {i j : Nat} (h : j = i / 4) : mWp g (i + 1) j = mWp g i j ||| (g i <<< (nI (8 * (i % 4)) &&& 31)) := by
  show (if j = i / 4 then _ else _) = _
  rw [if_pos h]
theorem mWp_hi {g : Nat → Int32} {j : Nat} : ∀ d, mWp g (4 * j + 4 + d) j = mWp g (4 * j + 4) j := by
  intro d
  induction d with
  | zero => rfl
  | succ d ih =>
    show (if j = (4 * j + 4 + d) / 4 then _ else mWp g (4 * j + 4 + d) j) = _
    rw [if_neg (by omega), ih]
theorem mWp_c {g : Nat → Int32} {j : Nat} (hj : j < 16) : mWp g 64 j = m4w (g (4 * j)) (g (4 * j + 1)) (g (4 * j + 2)) (g (4 * j + 3)) := by
  have h := mWp_hi (g := g) (j := j) (64 - (4 * j + 4))
  rw [show 4 * j + 4 + (64 - (4 * j + 4)) = 64 by omega] at h
  rw [h, show 4 * j + 4 = 4 * j + 3 + 1 from rfl, mWp_s (by omega), show 4 * j + 3 = 4 * j + 2 + 1 from rfl, mWp_s (by omega), show 4 * j + 2 = 4 * j + 1 + 1 from rfl, mWp_s (by omega), mWp_s (by omega), mWp_lo (4 * j) (Nat.le_refl _)]
  rw [show 8 * (4 * j % 4) = 0 by omega, show 8 * ((4 * j + 1) % 4) = 8 by omega, show 8 * ((4 * j + 1 + 1) % 4) = 16 by omega, show 8 * ((4 * j + 1 + 1 + 1) % 4) = 24 by omega]
  rfl
def lB (n j : Nat) : Int32 := (((8 : Int64) * (nI n).toInt64) >>> ((nI (8 * j)).toInt64 &&& 63)).toInt32.toInt8.toInt32
set_option maxRecDepth 100000 in
theorem lB_w : ∀ n, n < 2001 → w4 (lB n 0 &&& 255) (lB n 1 &&& 255) (lB n 2 &&& 255) (lB n 3 &&& 255) = nI (8 * n) ∧ w4 (lB n 4 &&& 255) (lB n 5 &&& 255) (lB n 6 &&& 255) (lB n 7 &&& 255) = 0 := fun n hn => co_dec (P := fun n => w4 (lB n 0 &&& 255) (lB n 1 &&& 255) (lB n 2 &&& 255) (lB n 3 &&& 255) = nI (8 * n) ∧ w4 (lB n 4 &&& 255) (lB n 5 &&& 255) (lB n 6 &&& 255) (lB n 7 &&& 255) = 0) (N := 2001) (by decide +kernel) hn
/-- what the filled row holds -/
abbrev fOK (F f : Nat → Int32) (x n : Nat) : Prop := (∀ t, t < 64 * ((n + 8) / 64) + 56 → (F t &&& 255) = pb f x n t) ∧ ∀ j, j < 8 → (F (64 * ((n + 8) / 64) + 56 + j) &&& 255) = lB n j &&& 255
theorem wd_ch {F f : Nat → Int32} {x n c : Nat} (hF : fOK F f x n) (hn : n ≤ 2000) (hc : c < (n + 8) / 64 + 1) : ∀ j, j < 16 → wd4 F (64 * c) j = mCh f x n c j := by
  intro j hj
  unfold wd4 mCh
  by_cases e : c = (n + 8) / 64 ∧ 14 ≤ j
  · obtain ⟨e1, e2⟩ := e
    rcases (show j = 14 ∨ j = 15 by omega) with rfl | rfl
    · rw [if_pos ⟨e1, rfl⟩, ← (lB_w n (by omega)).1]
      have h0 := hF.2 0 (by omega)
      have h1 := hF.2 1 (by omega)
      have h2 := hF.2 2 (by omega)
      have h3 := hF.2 3 (by omega)
      rw [← h0, ← h1, ← h2, ← h3, ← e1]
    · rw [if_neg (by omega), if_pos ⟨e1, rfl⟩, ← (lB_w n (by omega)).2]
      have h0 := hF.2 4 (by omega)
      have h1 := hF.2 5 (by omega)
      have h2 := hF.2 6 (by omega)
      have h3 := hF.2 7 (by omega)
      rw [← h0, ← h1, ← h2, ← h3, ← e1]
  · rw [if_neg (by omega), if_neg (by omega), mWp_c hj, w4_eq, hF.1 _ (by omega), hF.1 _ (by omega), hF.1 _ (by omega), hF.1 _ (by omega)]
    rfl
theorem nar_128 : vp_nar .byte (-128) &&& 255 = 128 := by decide
theorem fOK_of {B F1 F2 f : Nat → Int32} {x n fr : Nat} (hB : ∀ j, j < n → (B (fr + j) &&& 255) = f (x + j)) (h1 : ∀ j, j < 64 * ((n + 8) / 64) + 64 → F1 j = (if j < n then (B (fr + j)).toInt8.toInt32 else 0)) (h2 : ∀ j, j < 64 * ((n + 8) / 64) + 56 → F2 j = upd F1 n (vp_nar .byte (-128)) j) (h3 : ∀ j, j < 8 → F2 (64 * ((n + 8) / 64) + 56 + j) = lB n j) : fOK F2 f x n := by
  refine ⟨fun t ht => ?_, fun j hj => by rw [h3 j hj]⟩
  rw [h2 t ht]
  by_cases e : t = n
  · rw [e, pk_us, nar_128, pb, if_neg (by omega), if_pos rfl]
  · rw [pk_un e, h1 t (by omega), pb]
    by_cases d : t < n
    · rw [if_pos d, if_pos d, bp_b, hB t d]
    · rw [if_neg d, if_neg d, if_neg e]
      decide
set_option maxHeartbeats 4000000 in
set_option maxRecDepth 100000 in
theorem m_digestOf (l : Launch) (D : va_G) (cI cB : ClassId) (m0 : Nat) (yb : Nat) (yz : Nat) (ye : Nat) (ys : Nat) (yg : Nat) (yf : Nat) (yh : Nat) (yw : Nat) (yn : Nat) (yt : Nat) (yl : Nat) (dz : Nat) (sz : Nat) (wz : Nat) (bz : Nat) (uS : Nat) (uW : Nat) (mr : Nat) (ml : Nat) (mw : Nat) (ma : Nat) (tz : Nat) (B : Nat → Int32) (F : Nat → Int32) (V : Nat → Int32) (H : Nat → Int32) (KN : Nat → Int32) (KT : Nat → Int32) (f : Nat → Int32) (x : Nat) (fr_ : Nat) (n : Nat) (hfn : fr_ + n ≤ 6000) (hn2 : n ≤ 2000) (hB : ∀ j, j < n → (B (fr_ + j) &&& 255) = f (x + j)) (hKN : ∀ j, j < 64 → KN j = kSin j) (hKT : ∀ j, j < 16 → KT j = kTrn j) : kC l yX5_digestOf cX5_digestOf 7 none 1 31 (0) (0) D cI cB [.ref m0, .int (nI fr_), .int (nI n)] [(m0, .inr (5, [.ref yb, .ref yz, .ref ye, .int (nI dz), .int (nI sz), .int (nI wz), .int (nI bz), .int (nI uS), .int (nI uW), .ref ys, .ref yg, .int (nI mr), .int (nI ml), .int (nI mw), .int (nI ma), .ref yf, .ref yh, .ref yw, .ref yn, .ref yt, .ref yl, .int (nI tz)])), (yb, .inl (cB, 6000, .inl B)), (yf, .inl (cB, 2112, .inl F)), (yw, .inl (cI, 16, .inl V)), (yh, .inl (cI, 4, .inl H)), (yn, .inl (cI, 64, .inl KN)), (yt, .inl (cI, 16, .inl KT))] (fun (vV : Option Value) (uU : va_W) => ∃ (F9 : Nat → Int32) (V9 : Nat → Int32) (H9 : Nat → Int32), vV = none ∧ uU = [(m0, .inr (5, [.ref yb, .ref yz, .ref ye, .int (nI dz), .int (nI sz), .int (nI wz), .int (nI bz), .int (nI uS), .int (nI uW), .ref ys, .ref yg, .int (nI mr), .int (nI ml), .int (nI mw), .int (nI ma), .ref yf, .ref yh, .ref yw, .ref yn, .ref yt, .ref yl, .int (nI tz)])), (yb, .inl (cB, 6000, .inl B)), (yf, .inl (cB, 2112, .inl F9)), (yw, .inl (cI, 16, .inl V9)), (yh, .inl (cI, 4, .inl H9)), (yn, .inl (cI, 64, .inl KN)), (yt, .inl (cI, 16, .inl KT))] ∧ (∀ j, j < 4 → H9 j = mDig f x n j)) := by
  refine k_entry (lv0 := [(0, .ref m0), (1, .int (nI fr_)), (2, .int (nI n))]) (by decide) (Nat.le_of_ble_eq_true rfl) rfl ?_
  intro zp ze zs zm zb zt zc zA X hr hin
  refine k_iload_n X dX5_digestOf_0 rfl 2 rfl ?_
  refine k_bipush (v := 8) X dX5_digestOf_1 (by decide) ?_
  refine k_iadd X dX5_digestOf_3 ?_
  refine k_as (y := nI (n + 8)) (nI_add n 8) ?_
  refine k_bipush (v := 64) X dX5_digestOf_4 (by decide) ?_
  refine k_idiv X dX5_digestOf_6 (by decide) ?_
  refine k_as (y := nI ((n + 8) / 64)) (pk_div (a := n + 8) (d := 64) (by omega) (by omega) (by omega)) ?_
  refine k_bipush (v := 64) X dX5_digestOf_7 (by decide) ?_
  refine k_imul X dX5_digestOf_9 ?_
  refine k_as (y := nI (64 * ((n + 8) / 64))) (n_mulc _ 64) ?_
  refine k_bipush (v := 64) X dX5_digestOf_10 (by decide) ?_
  refine k_iadd X dX5_digestOf_12 ?_
  refine k_as (y := nI (64 * ((n + 8) / 64) + 64)) (nI_add _ 64) ?_
  refine k_istore_n (lv' := [(3, .int (nI (64 * ((n + 8) / 64) + 64))), (0, .ref m0), (1, .int (nI fr_)), (2, .int (nI n))]) X dX5_digestOf_13 rfl (by decide) rfl ?_
  refine k_iconst (v := 0) X dX5_digestOf_14 (by decide) ?_
  refine k_istore (lv' := [(4, .int 0), (3, .int (nI (64 * ((n + 8) / 64) + 64))), (0, .ref m0), (1, .int (nI fr_)), (2, .int (nI n))]) X dX5_digestOf_15 (by decide) rfl ?_
  refine k_lv (lv' := [(0, .ref m0), (1, .int (nI fr_)), (2, .int (nI n)), (3, .int (nI (64 * ((n + 8) / 64) + 64))), (4, .int (nI 0))]) [2, 3, 4, 1, 0] rfl ?_
  refine k_sub (ws' := [(m0, .inr (5, [.ref yb, .ref yz, .ref ye, .int (nI dz), .int (nI sz), .int (nI wz), .int (nI bz), .int (nI uS), .int (nI uW), .ref ys, .ref yg, .int (nI mr), .int (nI ml), .int (nI mw), .int (nI ma), .ref yf, .ref yh, .ref yw, .ref yn, .ref yt, .ref yl, .int (nI tz)])), (yb, .inl (cB, 6000, .inl B)), (yf, .inl (cB, 2112, .inl F)), (yw, .inl (cI, 16, .inl V)), (yh, .inl (cI, 4, .inl H)), (yn, .inl (cI, 64, .inl KN)), (yt, .inl (cI, 16, .inl KT))]) [0, 1, 2, 3, 4, 5, 6] (by decide) rfl rfl ?_
  refine k_wide (k := 0) (n := 0) (by (try dsimp only); omega) (by (try dsimp only); omega) ?_
  refine k_loop2 (pc1 := 17) (cl := fun (k : Nat) (F1 : Nat → Int32) => 0) (sl := fun (k : Nat) (F1 : Nat → Int32) => 0) (wsf := fun (k : Nat) (F1 : Nat → Int32) => [(m0, .inr (5, [.ref yb, .ref yz, .ref ye, .int (nI dz), .int (nI sz), .int (nI wz), .int (nI bz), .int (nI uS), .int (nI uW), .ref ys, .ref yg, .int (nI mr), .int (nI ml), .int (nI mw), .int (nI ma), .ref yf, .ref yh, .ref yw, .ref yn, .ref yt, .ref yl, .int (nI tz)])), (yb, .inl (cB, 6000, .inl B)), (yf, .inl (cB, 2112, .inl F1)), (yw, .inl (cI, 16, .inl V)), (yh, .inl (cI, 4, .inl H)), (yn, .inl (cI, 64, .inl KN)), (yt, .inl (cI, 16, .inl KT))]) (lvf := fun (k : Nat) (F1 : Nat → Int32) => [(0, .ref m0), (1, .int (nI fr_)), (2, .int (nI n)), (3, .int (nI (64 * ((n + 8) / 64) + 64))), (4, .int (nI k))]) (stf := fun (k : Nat) (F1 : Nat → Int32) => []) (I := fun (k : Nat) (F1 : Nat → Int32) => k ≤ 64 * ((n + 8) / 64) + 64 ∧ ∀ j, j < k → F1 j = (if j < n then (B (fr_ + j)).toInt8.toInt32 else 0)) (mu := fun (k : Nat) (F1 : Nat → Int32) => 64 * ((n + 8) / 64) + 64 - k) ?_ 0 F (⟨Nat.zero_le _, fun j h => absurd h (Nat.not_lt_zero j)⟩)
  intro k F1 hI ih
  try dsimp only at hI ih
  try dsimp only
  have hi := hI.1
  refine k_iload X dX5_digestOf_17 4 rfl ?_
  refine k_iload_n X dX5_digestOf_19 rfl 3 rfl ?_
  refine k_icmp_ge (tgt := 55) (xi := ((k : Nat) : Int)) (yi := (((64 * ((n + 8) / 64) + 64) : Nat) : Int)) X (nI_toInt (by omega)) (nI_toInt (by omega)) dX5_digestOf_20 (by decide) (fun c_20 => ?_) (fun c_20 => ?_)
  · refine k_aload_n X dX5_digestOf_55 rfl 0 rfl ?_
    refine k_get (v := .ref yf) X 0 5 15 rfl rfl (by decide) fl_X5_39 in_X5 rfl rfl dX5_digestOf_56 ?_
    refine k_iload_n X dX5_digestOf_59 rfl 2 rfl ?_
    refine k_bipush (v := -128) X dX5_digestOf_60 (by decide) ?_
    refine k_bast (f' := upd F1 n (vp_nar .byte (-128))) (ws' := [(m0, .inr (5, [.ref yb, .ref yz, .ref ye, .int (nI dz), .int (nI sz), .int (nI wz), .int (nI bz), .int (nI uS), .int (nI uW), .ref ys, .ref yg, .int (nI mr), .int (nI ml), .int (nI mw), .int (nI ma), .ref yf, .ref yh, .ref yw, .ref yn, .ref yt, .ref yl, .int (nI tz)])), (yb, .inl (cB, 6000, .inl B)), (yf, .inl (cB, 2112, .inl (upd F1 n (vp_nar .byte (-128))))), (yw, .inl (cI, 16, .inl V)), (yh, .inl (cI, 4, .inl H)), (yn, .inl (cI, 64, .inl KN)), (yt, .inl (cI, 16, .inl KT))]) X 2 rfl (vp_in_nI (n := n) (by omega) (by omega)) (by rw [nI_clamp (n := n) (by omega)]) rfl dX5_digestOf_62 ?_
    refine k_ldc2 X kc_X5_126 dX5_digestOf_63 ?_
    refine k_iload_n X dX5_digestOf_66 rfl 2 rfl ?_
    refine k_i2l (v := (nI n).toInt64) X dX5_digestOf_67 rfl ?_
    refine k_lmul X dX5_digestOf_68 ?_
    refine k_lstore (lv' := [(4, .long (8 * ((nI n).toInt64))), (0, .ref m0), (1, .int (nI fr_)), (2, .int (nI n)), (3, .int (nI (64 * ((n + 8) / 64) + 64)))]) X dX5_digestOf_69 (by decide) rfl ?_
    refine k_iconst (v := 0) X dX5_digestOf_71 (by decide) ?_
    refine k_istore (lv' := [(6, .int 0), (4, .long (8 * ((nI n).toInt64))), (0, .ref m0), (1, .int (nI fr_)), (2, .int (nI n)), (3, .int (nI (64 * ((n + 8) / 64) + 64)))]) X dX5_digestOf_72 (by decide) rfl ?_
    refine k_lv (lv' := [(0, .ref m0), (1, .int (nI fr_)), (2, .int (nI n)), (3, .int (nI (64 * ((n + 8) / 64) + 64))), (4, .long (8 * (nI n).toInt64)), (6, .int (nI 0))]) [2, 3, 4, 5, 1, 0] rfl ?_
    refine k_sub (ws' := [(m0, .inr (5, [.ref yb, .ref yz, .ref ye, .int (nI dz), .int (nI sz), .int (nI wz), .int (nI bz), .int (nI uS), .int (nI uW), .ref ys, .ref yg, .int (nI mr), .int (nI ml), .int (nI mw), .int (nI ma), .ref yf, .ref yh, .ref yw, .ref yn, .ref yt, .ref yl, .int (nI tz)])), (yb, .inl (cB, 6000, .inl B)), (yf, .inl (cB, 2112, .inl (upd F1 n (vp_nar .byte (-128))))), (yw, .inl (cI, 16, .inl V)), (yh, .inl (cI, 4, .inl H)), (yn, .inl (cI, 64, .inl KN)), (yt, .inl (cI, 16, .inl KT))]) [0, 1, 2, 3, 4, 5, 6] (by decide) rfl rfl ?_
    refine k_wide (k := 0) (n := 0) (by (try dsimp only); omega) (by (try dsimp only); omega) ?_
    refine k_loop2 (pc1 := 74) (cl := fun (q : Nat) (F2 : Nat → Int32) => 0) (sl := fun (q : Nat) (F2 : Nat → Int32) => 0) (wsf := fun (q : Nat) (F2 : Nat → Int32) => [(m0, .inr (5, [.ref yb, .ref yz, .ref ye, .int (nI dz), .int (nI sz), .int (nI wz), .int (nI bz), .int (nI uS), .int (nI uW), .ref ys, .ref yg, .int (nI mr), .int (nI ml), .int (nI mw), .int (nI ma), .ref yf, .ref yh, .ref yw, .ref yn, .ref yt, .ref yl, .int (nI tz)])), (yb, .inl (cB, 6000, .inl B)), (yf, .inl (cB, 2112, .inl F2)), (yw, .inl (cI, 16, .inl V)), (yh, .inl (cI, 4, .inl H)), (yn, .inl (cI, 64, .inl KN)), (yt, .inl (cI, 16, .inl KT))]) (lvf := fun (q : Nat) (F2 : Nat → Int32) => [(0, .ref m0), (1, .int (nI fr_)), (2, .int (nI n)), (3, .int (nI (64 * ((n + 8) / 64) + 64))), (4, .long (8 * (nI n).toInt64)), (6, .int (nI q))]) (stf := fun (q : Nat) (F2 : Nat → Int32) => []) (I := fun (q : Nat) (F2 : Nat → Int32) => q ≤ 8 ∧ (∀ j, j < 64 * ((n + 8) / 64) + 56 → F2 j = (upd F1 n (vp_nar .byte (-128))) j) ∧ ∀ j, j < q → F2 (64 * ((n + 8) / 64) + 56 + j) = lB n j) (mu := fun (q : Nat) (F2 : Nat → Int32) => 8 - q) ?_ 0 (upd F1 n (vp_nar .byte (-128))) (⟨Nat.zero_le _, fun j _ => rfl, fun j h => absurd h (Nat.not_lt_zero j)⟩)
    intro q F2 hJ jh
    try dsimp only at hJ jh
    try dsimp only
    have hj8 := hJ.1
    refine k_iload X dX5_digestOf_74 5 rfl ?_
    refine k_bipush (v := 8) X dX5_digestOf_76 (by decide) ?_
    refine k_icmp_ge (tgt := 109) (xi := ((q : Nat) : Int)) (yi := (8 : Int)) X (nI_toInt (by omega)) (by decide) dX5_digestOf_78 (by decide) (fun c_78 => ?_) (fun c_78 => ?_)
    · have hF2 : fOK F2 f x n := fOK_of hB (fun j hj => hI.2 j (by omega)) hJ.2.1 (fun j hj => hJ.2.2 j (by omega))
      refine k_aload_n X dX5_digestOf_109 rfl 0 rfl ?_
      refine k_get (v := .ref yh) X 0 5 16 rfl rfl (by decide) fl_X5_42 in_X5 rfl rfl dX5_digestOf_110 ?_
      refine k_iconst (v := 0) X dX5_digestOf_113 (by decide) ?_
      refine k_ldc X kc_X5_128 dX5_digestOf_114 ?_
      refine k_iast (f' := upd H 0 1732584193) (ws' := [(m0, .inr (5, [.ref yb, .ref yz, .ref ye, .int (nI dz), .int (nI sz), .int (nI wz), .int (nI bz), .int (nI uS), .int (nI uW), .ref ys, .ref yg, .int (nI mr), .int (nI ml), .int (nI mw), .int (nI ma), .ref yf, .ref yh, .ref yw, .ref yn, .ref yt, .ref yl, .int (nI tz)])), (yb, .inl (cB, 6000, .inl B)), (yf, .inl (cB, 2112, .inl F2)), (yw, .inl (cI, 16, .inl V)), (yh, .inl (cI, 4, .inl (upd H 0 1732584193))), (yn, .inl (cI, 64, .inl KN)), (yt, .inl (cI, 16, .inl KT))]) X 4 rfl (vp_in_nI (n := 0) (by omega) (by omega)) (by rw [show ((0 : Int32).toNatClampNeg) = 0 from rfl]) rfl dX5_digestOf_116 ?_
      refine k_aload_n X dX5_digestOf_117 rfl 0 rfl ?_
      refine k_get (v := .ref yh) X 0 5 16 rfl rfl (by decide) fl_X5_42 in_X5 rfl rfl dX5_digestOf_118 ?_
      refine k_iconst (v := 1) X dX5_digestOf_121 (by decide) ?_
      refine k_ldc X kc_X5_129 dX5_digestOf_122 ?_
      refine k_iast (f' := upd (upd H 0 1732584193) 1 (-271733879)) (ws' := [(m0, .inr (5, [.ref yb, .ref yz, .ref ye, .int (nI dz), .int (nI sz), .int (nI wz), .int (nI bz), .int (nI uS), .int (nI uW), .ref ys, .ref yg, .int (nI mr), .int (nI ml), .int (nI mw), .int (nI ma), .ref yf, .ref yh, .ref yw, .ref yn, .ref yt, .ref yl, .int (nI tz)])), (yb, .inl (cB, 6000, .inl B)), (yf, .inl (cB, 2112, .inl F2)), (yw, .inl (cI, 16, .inl V)), (yh, .inl (cI, 4, .inl (upd (upd H 0 1732584193) 1 (-271733879)))), (yn, .inl (cI, 64, .inl KN)), (yt, .inl (cI, 16, .inl KT))]) X 4 rfl (vp_in_nI (n := 1) (by omega) (by omega)) (by rw [show ((1 : Int32).toNatClampNeg) = 1 from rfl]) rfl dX5_digestOf_124 ?_
      refine k_aload_n X dX5_digestOf_125 rfl 0 rfl ?_
      refine k_get (v := .ref yh) X 0 5 16 rfl rfl (by decide) fl_X5_42 in_X5 rfl rfl dX5_digestOf_126 ?_
      refine k_iconst (v := 2) X dX5_digestOf_129 (by decide) ?_
      refine k_ldc X kc_X5_130 dX5_digestOf_130 ?_
      refine k_iast (f' := upd (upd (upd H 0 1732584193) 1 (-271733879)) 2 (-1732584194)) (ws' := [(m0, .inr (5, [.ref yb, .ref yz, .ref ye, .int (nI dz), .int (nI sz), .int (nI wz), .int (nI bz), .int (nI uS), .int (nI uW), .ref ys, .ref yg, .int (nI mr), .int (nI ml), .int (nI mw), .int (nI ma), .ref yf, .ref yh, .ref yw, .ref yn, .ref yt, .ref yl, .int (nI tz)])), (yb, .inl (cB, 6000, .inl B)), (yf, .inl (cB, 2112, .inl F2)), (yw, .inl (cI, 16, .inl V)), (yh, .inl (cI, 4, .inl (upd (upd (upd H 0 1732584193) 1 (-271733879)) 2 (-1732584194)))), (yn, .inl (cI, 64, .inl KN)), (yt, .inl (cI, 16, .inl KT))]) X 4 rfl (vp_in_nI (n := 2) (by omega) (by omega)) (by rw [show ((2 : Int32).toNatClampNeg) = 2 from rfl]) rfl dX5_digestOf_132 ?_
      refine k_aload_n X dX5_digestOf_133 rfl 0 rfl ?_
      refine k_get (v := .ref yh) X 0 5 16 rfl rfl (by decide) fl_X5_42 in_X5 rfl rfl dX5_digestOf_134 ?_
      refine k_iconst (v := 3) X dX5_digestOf_137 (by decide) ?_
      refine k_ldc X kc_X5_131 dX5_digestOf_138 ?_
      refine k_iast (f' := upd (upd (upd (upd H 0 1732584193) 1 (-271733879)) 2 (-1732584194)) 3 271733878) (ws' := [(m0, .inr (5, [.ref yb, .ref yz, .ref ye, .int (nI dz), .int (nI sz), .int (nI wz), .int (nI bz), .int (nI uS), .int (nI uW), .ref ys, .ref yg, .int (nI mr), .int (nI ml), .int (nI mw), .int (nI ma), .ref yf, .ref yh, .ref yw, .ref yn, .ref yt, .ref yl, .int (nI tz)])), (yb, .inl (cB, 6000, .inl B)), (yf, .inl (cB, 2112, .inl F2)), (yw, .inl (cI, 16, .inl V)), (yh, .inl (cI, 4, .inl (upd (upd (upd (upd H 0 1732584193) 1 (-271733879)) 2 (-1732584194)) 3 271733878))), (yn, .inl (cI, 64, .inl KN)), (yt, .inl (cI, 16, .inl KT))]) X 4 rfl (vp_in_nI (n := 3) (by omega) (by omega)) (by rw [show ((3 : Int32).toNatClampNeg) = 3 from rfl]) rfl dX5_digestOf_140 ?_
      refine k_iconst (v := 0) X dX5_digestOf_141 (by decide) ?_
      refine k_istore (lv' := [(6, .int 0), (0, .ref m0), (1, .int (nI fr_)), (2, .int (nI n)), (3, .int (nI (64 * ((n + 8) / 64) + 64))), (4, .long (8 * (nI n).toInt64))]) X dX5_digestOf_142 (by decide) rfl ?_
      refine k_lv (lv' := [(0, .ref m0), (3, .int (nI (64 * ((n + 8) / 64) + 64))), (6, .int (nI (64 * 0)))]) [1, 4, 0] rfl ?_
      refine k_sub (ws' := [(m0, .inr (5, [.ref yb, .ref yz, .ref ye, .int (nI dz), .int (nI sz), .int (nI wz), .int (nI bz), .int (nI uS), .int (nI uW), .ref ys, .ref yg, .int (nI mr), .int (nI ml), .int (nI mw), .int (nI ma), .ref yf, .ref yh, .ref yw, .ref yn, .ref yt, .ref yl, .int (nI tz)])), (yb, .inl (cB, 6000, .inl B)), (yf, .inl (cB, 2112, .inl F2)), (yw, .inl (cI, 16, .inl V)), (yh, .inl (cI, 4, .inl (upd (upd (upd (upd H 0 1732584193) 1 (-271733879)) 2 (-1732584194)) 3 271733878))), (yn, .inl (cI, 64, .inl KN)), (yt, .inl (cI, 16, .inl KT))]) [0, 1, 2, 3, 4, 5, 6] (by decide) rfl rfl ?_
      refine k_wide (k := 0) (n := 0) (by (try dsimp only); omega) (by (try dsimp only); omega) ?_
      refine k_loop3 (pc1 := 144) (cl := fun (c : Nat) (V1 : Nat → Int32) (H1 : Nat → Int32) => 0) (sl := fun (c : Nat) (V1 : Nat → Int32) (H1 : Nat → Int32) => 0) (wsf := fun (c : Nat) (V1 : Nat → Int32) (H1 : Nat → Int32) => [(m0, .inr (5, [.ref yb, .ref yz, .ref ye, .int (nI dz), .int (nI sz), .int (nI wz), .int (nI bz), .int (nI uS), .int (nI uW), .ref ys, .ref yg, .int (nI mr), .int (nI ml), .int (nI mw), .int (nI ma), .ref yf, .ref yh, .ref yw, .ref yn, .ref yt, .ref yl, .int (nI tz)])), (yb, .inl (cB, 6000, .inl B)), (yf, .inl (cB, 2112, .inl F2)), (yw, .inl (cI, 16, .inl V1)), (yh, .inl (cI, 4, .inl H1)), (yn, .inl (cI, 64, .inl KN)), (yt, .inl (cI, 16, .inl KT))]) (lvf := fun (c : Nat) (V1 : Nat → Int32) (H1 : Nat → Int32) => [(0, .ref m0), (3, .int (nI (64 * ((n + 8) / 64) + 64))), (6, .int (nI (64 * c)))]) (stf := fun (c : Nat) (V1 : Nat → Int32) (H1 : Nat → Int32) => []) (I := fun (c : Nat) (V1 : Nat → Int32) (H1 : Nat → Int32) => c ≤ (n + 8) / 64 + 1 ∧ ∀ j, j < 4 → H1 j = mSt f x n c j) (mu := fun (c : Nat) (V1 : Nat → Int32) (H1 : Nat → Int32) => (n + 8) / 64 + 1 - c) ?_ 0 V (upd (upd (upd (upd H 0 1732584193) 1 (-271733879)) 2 (-1732584194)) 3 271733878) (⟨Nat.zero_le _, fun j hj => mIni_eq H j hj⟩)
      intro c V1 H1 hG gh
      try dsimp only at hG gh
      try dsimp only
      have hic := hG.1
      refine k_iload X dX5_digestOf_144 2 rfl ?_
      refine k_iload_n X dX5_digestOf_146 rfl 1 rfl ?_
      refine k_icmp_ge (tgt := 162) (xi := (((64 * c) : Nat) : Int)) (yi := (((64 * ((n + 8) / 64) + 64) : Nat) : Int)) X (nI_toInt (by omega)) (nI_toInt (by omega)) dX5_digestOf_147 (by decide) (fun c_147 => ?_) (fun c_147 => ?_)
      · exact k_vret (u := [(m0, .inr (5, [.ref yb, .ref yz, .ref ye, .int (nI dz), .int (nI sz), .int (nI wz), .int (nI bz), .int (nI uS), .int (nI uW), .ref ys, .ref yg, .int (nI mr), .int (nI ml), .int (nI mw), .int (nI ma), .ref yf, .ref yh, .ref yw, .ref yn, .ref yt, .ref yl, .int (nI tz)])), (yb, .inl (cB, 6000, .inl B)), (yf, .inl (cB, 2112, .inl F2)), (yw, .inl (cI, 16, .inl V1)), (yh, .inl (cI, 4, .inl H1)), (yn, .inl (cI, 64, .inl KN)), (yt, .inl (cI, 16, .inl KT))]) X hr [0, 1, 2, 3, 4, 5, 6] (by decide) rfl rfl (⟨F2, V1, H1, rfl, rfl, fun j hj => by rw [hG.2 j hj]; unfold mDig; congr 1; omega⟩) (by (try dsimp only); omega) (by (try dsimp only); omega) dX5_digestOf_162
      · refine k_aload_n X dX5_digestOf_150 rfl 0 rfl ?_
        refine k_iload X dX5_digestOf_151 2 rfl ?_
        refine k_callV (wc := [(m0, .inr (5, [.ref yb, .ref yz, .ref ye, .int (nI dz), .int (nI sz), .int (nI wz), .int (nI bz), .int (nI uS), .int (nI uW), .ref ys, .ref yg, .int (nI mr), .int (nI ml), .int (nI mw), .int (nI ma), .ref yf, .ref yh, .ref yw, .ref yn, .ref yt, .ref yl, .int (nI tz)])), (yf, .inl (cB, 2112, .inl F2)), (yw, .inl (cI, 16, .inl V1)), (yh, .inl (cI, 4, .inl H1)), (yn, .inl (cI, 64, .inl KN)), (yt, .inl (cI, 16, .inl KT))]) (wr := [(yb, .inl (cB, 6000, .inl B))]) (As := [.int (nI (64 * c))]) (n := 1) (st := []) (q0 := 0) X (m_mix l D cI cB m0 yb yz ye ys yg yf yh yw yn yt yl dz sz wz bz uS uW mr ml mw ma tz F2 V1 H1 KN KT (64 * c) (by omega) (hKN) (hKT)) rfl rfl ml_X5_132 im_X5_mix se_X5_mix ini_X5 co_X5_mix (by decide +kernel) rfl ⟨Nat.le_of_ble_eq_true rfl, Nat.le_of_ble_eq_true rfl⟩ (⟨by (try dsimp only); omega, by (try dsimp only); omega⟩) (Nat.le_of_ble_eq_true rfl) [0, 2, 3, 4, 5, 6] [1] rfl rfl rfl (by decide) (by decide) (by decide) rfl dX5_digestOf_153 (fun v_153 u_153 hu_153 => ?_)
        obtain ⟨V2, rfl, rfl, hV2⟩ := hu_153
        refine k_to (ws' := [(yb, .inl (cB, 6000, .inl B)), (m0, .inr (5, [.ref yb, .ref yz, .ref ye, .int (nI dz), .int (nI sz), .int (nI wz), .int (nI bz), .int (nI uS), .int (nI uW), .ref ys, .ref yg, .int (nI mr), .int (nI ml), .int (nI mw), .int (nI ma), .ref yf, .ref yh, .ref yw, .ref yn, .ref yt, .ref yl, .int (nI tz)])), (yf, .inl (cB, 2112, .inl F2)), (yw, .inl (cI, 16, .inl V2)), (yh, .inl (cI, 4, .inl (mMix V2 H1))), (yn, .inl (cI, 64, .inl KN)), (yt, .inl (cI, 16, .inl KT))]) (st' := []) rfl rfl ?_
        refine k_iinc (v := nI (64 * (c + 1))) (lv' := [(6, .int (nI (64 * (c + 1)))), (0, .ref m0), (3, .int (nI (64 * ((n + 8) / 64) + 64)))]) X dX5_digestOf_156 2 rfl (by rw [show Int32.ofInt 64 = nI 64 from rfl, nI_add]; congr 1) (by decide) rfl ?_
        refine k_goto (tgt := 144) X dX5_digestOf_159 (by decide) ?_
        refine k_lv (lv' := [(0, .ref m0), (3, .int (nI (64 * ((n + 8) / 64) + 64))), (6, .int (nI (64 * (c + 1))))]) [1, 2, 0] rfl ?_
        refine k_sub (ws' := [(m0, .inr (5, [.ref yb, .ref yz, .ref ye, .int (nI dz), .int (nI sz), .int (nI wz), .int (nI bz), .int (nI uS), .int (nI uW), .ref ys, .ref yg, .int (nI mr), .int (nI ml), .int (nI mw), .int (nI ma), .ref yf, .ref yh, .ref yw, .ref yn, .ref yt, .ref yl, .int (nI tz)])), (yb, .inl (cB, 6000, .inl B)), (yf, .inl (cB, 2112, .inl F2)), (yw, .inl (cI, 16, .inl V2)), (yh, .inl (cI, 4, .inl (mMix V2 H1))), (yn, .inl (cI, 64, .inl KN)), (yt, .inl (cI, 16, .inl KT))]) [1, 0, 2, 3, 4, 5, 6] (by decide) rfl rfl ?_
        refine k_wide (k := 0) (n := 0) (by (try dsimp only); omega) (by (try dsimp only); omega) ?_
        exact gh (c + 1) V2 (mMix V2 H1) (⟨by omega, mMix_congr (fun j hj => (hV2 j hj).trans (wd_ch hF2 hn2 (by omega) j hj)) hG.2⟩) (by omega)
    · refine k_aload_n X dX5_digestOf_81 rfl 0 rfl ?_
      refine k_get (v := .ref yf) X 0 5 15 rfl rfl (by decide) fl_X5_39 in_X5 rfl rfl dX5_digestOf_82 ?_
      refine k_iload_n X dX5_digestOf_85 rfl 3 rfl ?_
      refine k_bipush (v := 8) X dX5_digestOf_86 (by decide) ?_
      refine k_isub X dX5_digestOf_88 ?_
      refine k_as (y := nI (64 * ((n + 8) / 64) + 56)) (pk_sub (a := 64 * ((n + 8) / 64) + 64) (b := 8) (by omega)) ?_
      refine k_iload X dX5_digestOf_89 5 rfl ?_
      refine k_iadd X dX5_digestOf_91 ?_
      refine k_as (y := nI (64 * ((n + 8) / 64) + 56 + q)) (nI_add _ _) ?_
      refine k_lload X dX5_digestOf_92 4 rfl ?_
      refine k_bipush (v := 8) X dX5_digestOf_94 (by decide) ?_
      refine k_iload X dX5_digestOf_96 5 rfl ?_
      refine k_imul X dX5_digestOf_98 ?_
      refine k_as (y := nI (8 * q)) (n_mul 8 q) ?_
      refine k_lshr (v := (8 * (nI n).toInt64) >>> ((nI (8 * q)).toInt64 &&& 63)) X dX5_digestOf_99 rfl ?_
      refine k_l2i (v := ((8 * (nI n).toInt64) >>> ((nI (8 * q)).toInt64 &&& 63)).toInt32) X dX5_digestOf_100 rfl ?_
      refine k_i2b (v := (((8 * (nI n).toInt64) >>> ((nI (8 * q)).toInt64 &&& 63)).toInt32).toInt8.toInt32) X dX5_digestOf_101 rfl ?_
      refine k_bast (f' := upd F2 (64 * ((n + 8) / 64) + 56 + q) (vp_nar .byte ((((8 * (nI n).toInt64) >>> ((nI (8 * q)).toInt64 &&& 63)).toInt32).toInt8.toInt32))) (ws' := [(m0, .inr (5, [.ref yb, .ref yz, .ref ye, .int (nI dz), .int (nI sz), .int (nI wz), .int (nI bz), .int (nI uS), .int (nI uW), .ref ys, .ref yg, .int (nI mr), .int (nI ml), .int (nI mw), .int (nI ma), .ref yf, .ref yh, .ref yw, .ref yn, .ref yt, .ref yl, .int (nI tz)])), (yb, .inl (cB, 6000, .inl B)), (yf, .inl (cB, 2112, .inl (upd F2 (64 * ((n + 8) / 64) + 56 + q) (vp_nar .byte ((((8 * (nI n).toInt64) >>> ((nI (8 * q)).toInt64 &&& 63)).toInt32).toInt8.toInt32))))), (yw, .inl (cI, 16, .inl V)), (yh, .inl (cI, 4, .inl H)), (yn, .inl (cI, 64, .inl KN)), (yt, .inl (cI, 16, .inl KT))]) X 2 rfl (vp_in_nI (n := 64 * ((n + 8) / 64) + 56 + q) (by omega) (by omega)) (by rw [nI_clamp (n := 64 * ((n + 8) / 64) + 56 + q) (by omega)]) rfl dX5_digestOf_102 ?_
      refine k_iinc (v := nI (q + 1)) (lv' := [(6, .int (nI (q + 1))), (0, .ref m0), (1, .int (nI fr_)), (2, .int (nI n)), (3, .int (nI (64 * ((n + 8) / 64) + 64))), (4, .long (8 * (nI n).toInt64))]) X dX5_digestOf_103 5 rfl (nI_1 _) (by decide) rfl ?_
      refine k_goto (tgt := 74) X dX5_digestOf_106 (by decide) ?_
      refine k_lv (lv' := [(0, .ref m0), (1, .int (nI fr_)), (2, .int (nI n)), (3, .int (nI (64 * ((n + 8) / 64) + 64))), (4, .long (8 * (nI n).toInt64)), (6, .int (nI (q + 1)))]) [1, 2, 3, 4, 5, 0] rfl ?_
      refine k_sub (ws' := [(m0, .inr (5, [.ref yb, .ref yz, .ref ye, .int (nI dz), .int (nI sz), .int (nI wz), .int (nI bz), .int (nI uS), .int (nI uW), .ref ys, .ref yg, .int (nI mr), .int (nI ml), .int (nI mw), .int (nI ma), .ref yf, .ref yh, .ref yw, .ref yn, .ref yt, .ref yl, .int (nI tz)])), (yb, .inl (cB, 6000, .inl B)), (yf, .inl (cB, 2112, .inl (upd F2 (64 * ((n + 8) / 64) + 56 + q) (vp_nar .byte ((((8 * (nI n).toInt64) >>> ((nI (8 * q)).toInt64 &&& 63)).toInt32).toInt8.toInt32))))), (yw, .inl (cI, 16, .inl V)), (yh, .inl (cI, 4, .inl H)), (yn, .inl (cI, 64, .inl KN)), (yt, .inl (cI, 16, .inl KT))]) [0, 1, 2, 3, 4, 5, 6] (by decide) rfl rfl ?_
      refine k_wide (k := 0) (n := 0) (by (try dsimp only); omega) (by (try dsimp only); omega) ?_
      exact jh (q + 1) (upd F2 (64 * ((n + 8) / 64) + 56 + q) (vp_nar .byte ((((8 * (nI n).toInt64) >>> ((nI (8 * q)).toInt64 &&& 63)).toInt32).toInt8.toInt32))) (⟨by omega, fun j hj => by rw [pk_un (by omega)]; exact hJ.2.1 j hj, lt_s (fun j hj => by rw [pk_un (by omega)]; exact hJ.2.2 j hj) (by rw [pk_us, pk_vb]; rfl)⟩) (by omega)
  · refine k_aload_n X dX5_digestOf_23 rfl 0 rfl ?_
    refine k_get (v := .ref yf) X 0 5 15 rfl rfl (by decide) fl_X5_39 in_X5 rfl rfl dX5_digestOf_24 ?_
    refine k_iload X dX5_digestOf_27 4 rfl ?_
    refine k_iload X dX5_digestOf_29 4 rfl ?_
    refine k_iload_n X dX5_digestOf_31 rfl 2 rfl ?_
    refine k_icmp_ge (tgt := 47) (xi := ((k : Nat) : Int)) (yi := ((n : Nat) : Int)) X (nI_toInt (by omega)) (nI_toInt (by omega)) dX5_digestOf_32 (by decide) (fun c_32 => ?_) (fun c_32 => ?_)
    · refine k_iconst (v := 0) X dX5_digestOf_47 (by decide) ?_
      refine k_bast (f' := upd F1 k (vp_nar .byte 0)) (ws' := [(m0, .inr (5, [.ref yb, .ref yz, .ref ye, .int (nI dz), .int (nI sz), .int (nI wz), .int (nI bz), .int (nI uS), .int (nI uW), .ref ys, .ref yg, .int (nI mr), .int (nI ml), .int (nI mw), .int (nI ma), .ref yf, .ref yh, .ref yw, .ref yn, .ref yt, .ref yl, .int (nI tz)])), (yb, .inl (cB, 6000, .inl B)), (yf, .inl (cB, 2112, .inl (upd F1 k (vp_nar .byte 0)))), (yw, .inl (cI, 16, .inl V)), (yh, .inl (cI, 4, .inl H)), (yn, .inl (cI, 64, .inl KN)), (yt, .inl (cI, 16, .inl KT))]) X 2 rfl (vp_in_nI (n := k) (by omega) (by omega)) (by rw [nI_clamp (n := k) (by omega)]) rfl dX5_digestOf_48 ?_
      refine k_iinc (v := nI (k + 1)) (lv' := [(4, .int (nI (k + 1))), (0, .ref m0), (1, .int (nI fr_)), (2, .int (nI n)), (3, .int (nI (64 * ((n + 8) / 64) + 64)))]) X dX5_digestOf_49 4 rfl (nI_1 _) (by decide) rfl ?_
      refine k_goto (tgt := 17) X dX5_digestOf_52 (by decide) ?_
      refine k_lv (lv' := [(0, .ref m0), (1, .int (nI fr_)), (2, .int (nI n)), (3, .int (nI (64 * ((n + 8) / 64) + 64))), (4, .int (nI (k + 1)))]) [1, 2, 3, 4, 0] rfl ?_
      refine k_sub (ws' := [(m0, .inr (5, [.ref yb, .ref yz, .ref ye, .int (nI dz), .int (nI sz), .int (nI wz), .int (nI bz), .int (nI uS), .int (nI uW), .ref ys, .ref yg, .int (nI mr), .int (nI ml), .int (nI mw), .int (nI ma), .ref yf, .ref yh, .ref yw, .ref yn, .ref yt, .ref yl, .int (nI tz)])), (yb, .inl (cB, 6000, .inl B)), (yf, .inl (cB, 2112, .inl (upd F1 k (vp_nar .byte 0)))), (yw, .inl (cI, 16, .inl V)), (yh, .inl (cI, 4, .inl H)), (yn, .inl (cI, 64, .inl KN)), (yt, .inl (cI, 16, .inl KT))]) [0, 1, 2, 3, 4, 5, 6] (by decide) rfl rfl ?_
      refine k_wide (k := 0) (n := 0) (by (try dsimp only); omega) (by (try dsimp only); omega) ?_
      exact ih (k + 1) (upd F1 k (vp_nar .byte 0)) (⟨by omega, lt_s (fun j hj => by rw [pk_un (by omega)]; exact hI.2 j hj) (by rw [pk_us, vp_nar_byte]; rw [if_neg (by omega)]; rfl)⟩) (by omega)
    · refine k_aload_n X dX5_digestOf_35 rfl 0 rfl ?_
      refine k_get (v := .ref yb) X 0 5 0 rfl rfl (by decide) fl_X5_7 in_X5 rfl rfl dX5_digestOf_36 ?_
      refine k_iload_n X dX5_digestOf_39 rfl 1 rfl ?_
      refine k_iload X dX5_digestOf_40 4 rfl ?_
      refine k_iadd X dX5_digestOf_42 ?_
      refine k_as (y := nI (fr_ + k)) (nI_add _ _) ?_
      refine k_bald (v := B (fr_ + k)) X 1 rfl (vp_in_nI (n := fr_ + k) (by omega) (by omega)) (by rw [nI_clamp (n := fr_ + k) (by omega)]) dX5_digestOf_43 ?_
      refine k_goto (tgt := 48) X dX5_digestOf_44 (by decide) ?_
      refine k_bast (f' := upd F1 k (vp_nar .byte (B (fr_ + k)))) (ws' := [(m0, .inr (5, [.ref yb, .ref yz, .ref ye, .int (nI dz), .int (nI sz), .int (nI wz), .int (nI bz), .int (nI uS), .int (nI uW), .ref ys, .ref yg, .int (nI mr), .int (nI ml), .int (nI mw), .int (nI ma), .ref yf, .ref yh, .ref yw, .ref yn, .ref yt, .ref yl, .int (nI tz)])), (yb, .inl (cB, 6000, .inl B)), (yf, .inl (cB, 2112, .inl (upd F1 k (vp_nar .byte (B (fr_ + k)))))), (yw, .inl (cI, 16, .inl V)), (yh, .inl (cI, 4, .inl H)), (yn, .inl (cI, 64, .inl KN)), (yt, .inl (cI, 16, .inl KT))]) X 2 rfl (vp_in_nI (n := k) (by omega) (by omega)) (by rw [nI_clamp (n := k) (by omega)]) rfl dX5_digestOf_48 ?_
      refine k_iinc (v := nI (k + 1)) (lv' := [(4, .int (nI (k + 1))), (0, .ref m0), (1, .int (nI fr_)), (2, .int (nI n)), (3, .int (nI (64 * ((n + 8) / 64) + 64)))]) X dX5_digestOf_49 4 rfl (nI_1 _) (by decide) rfl ?_
      refine k_goto (tgt := 17) X dX5_digestOf_52 (by decide) ?_
      refine k_lv (lv' := [(0, .ref m0), (1, .int (nI fr_)), (2, .int (nI n)), (3, .int (nI (64 * ((n + 8) / 64) + 64))), (4, .int (nI (k + 1)))]) [1, 2, 3, 4, 0] rfl ?_
      refine k_sub (ws' := [(m0, .inr (5, [.ref yb, .ref yz, .ref ye, .int (nI dz), .int (nI sz), .int (nI wz), .int (nI bz), .int (nI uS), .int (nI uW), .ref ys, .ref yg, .int (nI mr), .int (nI ml), .int (nI mw), .int (nI ma), .ref yf, .ref yh, .ref yw, .ref yn, .ref yt, .ref yl, .int (nI tz)])), (yb, .inl (cB, 6000, .inl B)), (yf, .inl (cB, 2112, .inl (upd F1 k (vp_nar .byte (B (fr_ + k)))))), (yw, .inl (cI, 16, .inl V)), (yh, .inl (cI, 4, .inl H)), (yn, .inl (cI, 64, .inl KN)), (yt, .inl (cI, 16, .inl KT))]) [0, 1, 2, 3, 4, 5, 6] (by decide) rfl rfl ?_
      refine k_wide (k := 0) (n := 0) (by (try dsimp only); omega) (by (try dsimp only); omega) ?_
      exact ih (k + 1) (upd F1 k (vp_nar .byte (B (fr_ + k)))) (⟨by omega, lt_s (fun j hj => by rw [pk_un (by omega)]; exact hI.2 j hj) (by rw [pk_us, vp_nar_byte]; rw [if_pos (by omega)])⟩) (by omega)
set_option maxHeartbeats 4000000 in
set_option maxRecDepth 100000 in
theorem m_md5_0 (l : Launch) (D : va_G) (cI cB : ClassId) (m0 : Nat) (yb : Nat) (yz : Nat) (ye : Nat) (ys : Nat) (yg : Nat) (yf : Nat) (yh : Nat) (yw : Nat) (yn : Nat) (yt : Nat) (yl : Nat) (dz : Nat) (sz : Nat) (wz : Nat) (bz : Nat) (uS : Nat) (uW : Nat) (mr : Nat) (ml : Nat) (mw : Nat) (ma : Nat) (tz : Nat) (B : Nat → Int32) (F : Nat → Int32) (V : Nat → Int32) (H : Nat → Int32) (KN : Nat → Int32) (KT : Nat → Int32) (f : Nat → Int32) (ko : Nat) (kn : Nat) (kr : Nat) (q : Nat) (hk : ko ≤ 2000) (hB : ∀ j, j < ko → (B (0 + j) &&& 255) = f j) (hKN : ∀ j, j < 64 → KN j = kSin j) (hKT : ∀ j, j < 16 → KT j = kTrn j) (hq : q < 16) : kC l yX5_md5 cX5_md5 3 (some .int) 2 57 (0) (0) D cI cB [.ref m0, .int 0, .int (nI q)] [(m0, .inr (5, [.ref yb, .ref yz, .ref ye, .int (nI dz), .int (nI sz), .int (nI wz), .int (nI bz), .int (nI uS), .int (nI uW), .ref ys, .ref yg, .int (nI mr), .int (nI ml), .int (nI mw), .int (nI ma), .ref yf, .ref yh, .ref yw, .ref yn, .ref yt, .ref yl, .int (nI tz)])), (yb, .inl (cB, 6000, .inl B)), (yf, .inl (cB, 2112, .inl F)), (yw, .inl (cI, 16, .inl V)), (yh, .inl (cI, 4, .inl H)), (yn, .inl (cI, 64, .inl KN)), (yt, .inl (cI, 16, .inl KT)), (yz, .inl (cI, 3, .inl (zf ko kn kr)))] (fun (vV : Option Value) (uU : va_W) => ∃ (F9 : Nat → Int32) (V9 : Nat → Int32) (H9 : Nat → Int32), vV = some (.int (dByte (mDig f 0 ko) q)) ∧ uU = [(m0, .inr (5, [.ref yb, .ref yz, .ref ye, .int (nI dz), .int (nI sz), .int (nI wz), .int (nI bz), .int (nI uS), .int (nI uW), .ref ys, .ref yg, .int (nI mr), .int (nI ml), .int (nI mw), .int (nI ma), .ref yf, .ref yh, .ref yw, .ref yn, .ref yt, .ref yl, .int (nI tz)])), (yb, .inl (cB, 6000, .inl B)), (yf, .inl (cB, 2112, .inl F9)), (yw, .inl (cI, 16, .inl V9)), (yh, .inl (cI, 4, .inl H9)), (yn, .inl (cI, 64, .inl KN)), (yt, .inl (cI, 16, .inl KT)), (yz, .inl (cI, 3, .inl (zf ko kn kr)))]) := by
  refine k_entry (lv0 := [(0, .ref m0), (1, .int 0), (2, .int (nI q))]) (by decide) (Nat.le_of_ble_eq_true rfl) rfl ?_
  intro zp ze zs zm zb zt zc zA X hr hin
  refine k_iload_n X dX5_md5_0 rfl 1 rfl ?_
  refine k_callS (wc := []) (wr := [(m0, .inr (5, [.ref yb, .ref yz, .ref ye, .int (nI dz), .int (nI sz), .int (nI wz), .int (nI bz), .int (nI uS), .int (nI uW), .ref ys, .ref yg, .int (nI mr), .int (nI ml), .int (nI mw), .int (nI ma), .ref yf, .ref yh, .ref yw, .ref yn, .ref yt, .ref yl, .int (nI tz)])), (yb, .inl (cB, 6000, .inl B)), (yf, .inl (cB, 2112, .inl F)), (yw, .inl (cI, 16, .inl V)), (yh, .inl (cI, 4, .inl H)), (yn, .inl (cI, 64, .inl KN)), (yt, .inl (cI, 16, .inl KT)), (yz, .inl (cI, 3, .inl (zf ko kn kr)))]) (As := [.int 0]) (n := 1) (st := []) X (m_isFile_0 l D cI cB  ) ml_X5_121 sm_X5_isFile ini_X5 co_X5_isFile (by decide +kernel) rfl ⟨Nat.le_of_ble_eq_true rfl, Nat.le_of_ble_eq_true rfl⟩ (⟨by (try dsimp only); omega, by (try dsimp only); omega⟩) (Nat.le_of_ble_eq_true rfl) [] [0, 1, 2, 3, 4, 5, 6, 7] rfl rfl rfl (by decide) (by decide) (by decide) rfl dX5_md5_1 (fun v_1 u_1 hu_1 => ?_)
  obtain ⟨rfl, rfl⟩ := hu_1
  refine k_to (ws' := [(m0, .inr (5, [.ref yb, .ref yz, .ref ye, .int (nI dz), .int (nI sz), .int (nI wz), .int (nI bz), .int (nI uS), .int (nI uW), .ref ys, .ref yg, .int (nI mr), .int (nI ml), .int (nI mw), .int (nI ma), .ref yf, .ref yh, .ref yw, .ref yn, .ref yt, .ref yl, .int (nI tz)])), (yb, .inl (cB, 6000, .inl B)), (yf, .inl (cB, 2112, .inl F)), (yw, .inl (cI, 16, .inl V)), (yh, .inl (cI, 4, .inl H)), (yn, .inl (cI, 64, .inl KN)), (yt, .inl (cI, 16, .inl KT)), (yz, .inl (cI, 3, .inl (zf ko kn kr)))]) (st' := [.int 1]) rfl rfl ?_
  refine k_if_eq (tgt := 17) (xi := (1 : Int)) X (by decide) dX5_md5_4 (by decide) (fun c_4 => ?_) (fun c_4 => ?_)
  · exact absurd c_4 (by decide)
  · refine k_iload_n X dX5_md5_7 rfl 2 rfl ?_
    refine k_if_lt (tgt := 17) (xi := ((q : Nat) : Int)) X (nI_toInt (by omega)) dX5_md5_8 (by decide) (fun c_8 => ?_) (fun c_8 => ?_)
    · exact absurd c_8 (by omega)
    · refine k_iload_n X dX5_md5_11 rfl 2 rfl ?_
      refine k_bipush (v := 15) X dX5_md5_12 (by decide) ?_
      refine k_icmp_le (tgt := 19) (xi := ((q : Nat) : Int)) (yi := (15 : Int)) X (nI_toInt (by omega)) (by decide) dX5_md5_14 (by decide) (fun c_14 => ?_) (fun c_14 => ?_)
      · refine k_aload_n X dX5_md5_19 rfl 0 rfl ?_
        refine k_sipush (v := 2000) X dX5_md5_20 (by decide) ?_
        refine k_iload_n X dX5_md5_23 rfl 1 rfl ?_
        refine k_imul X dX5_md5_24 ?_
        refine k_as (y := nI 0) (by decide) ?_
        refine k_aload_n X dX5_md5_25 rfl 0 rfl ?_
        refine k_get (v := .ref yz) X 0 5 1 rfl rfl (by decide) fl_X5_13 in_X5 rfl rfl dX5_md5_26 ?_
        refine k_iload_n X dX5_md5_29 rfl 1 rfl ?_
        refine k_iald (v := (zf ko kn kr) 0) X 7 rfl (vp_in_nI (n := 0) (by omega) (by omega)) (by rw [show ((0 : Int32).toNatClampNeg) = 0 from rfl]) dX5_md5_30 ?_
        refine k_as (y := nI ko) (rfl) ?_
        refine k_callV (wc := [(m0, .inr (5, [.ref yb, .ref yz, .ref ye, .int (nI dz), .int (nI sz), .int (nI wz), .int (nI bz), .int (nI uS), .int (nI uW), .ref ys, .ref yg, .int (nI mr), .int (nI ml), .int (nI mw), .int (nI ma), .ref yf, .ref yh, .ref yw, .ref yn, .ref yt, .ref yl, .int (nI tz)])), (yb, .inl (cB, 6000, .inl B)), (yf, .inl (cB, 2112, .inl F)), (yw, .inl (cI, 16, .inl V)), (yh, .inl (cI, 4, .inl H)), (yn, .inl (cI, 64, .inl KN)), (yt, .inl (cI, 16, .inl KT))]) (wr := [(yz, .inl (cI, 3, .inl (zf ko kn kr)))]) (As := [.int (nI 0), .int (nI ko)]) (n := 2) (st := []) (q0 := 0) X (m_digestOf l D cI cB m0 yb yz ye ys yg yf yh yw yn yt yl dz sz wz bz uS uW mr ml mw ma tz B F V H KN KT f 0 0 ko (by omega) (hk) (fun j hj => (hB j hj).trans (by rw [Nat.zero_add])) (hKN) (hKT)) rfl rfl ml_X5_143 im_X5_digestOf se_X5_digestOf ini_X5 co_X5_digestOf (by decide +kernel) rfl ⟨Nat.le_of_ble_eq_true rfl, Nat.le_of_ble_eq_true rfl⟩ (⟨by (try dsimp only); omega, by (try dsimp only); omega⟩) (Nat.le_of_ble_eq_true rfl) [0, 1, 2, 3, 4, 5, 6] [7] rfl rfl rfl (by decide) (by decide) (by decide) rfl dX5_md5_31 (fun v_31 u_31 hu_31 => ?_)
        obtain ⟨F3, V3, H3, rfl, rfl, hH3⟩ := hu_31
        refine k_to (ws' := [(yz, .inl (cI, 3, .inl (zf ko kn kr))), (m0, .inr (5, [.ref yb, .ref yz, .ref ye, .int (nI dz), .int (nI sz), .int (nI wz), .int (nI bz), .int (nI uS), .int (nI uW), .ref ys, .ref yg, .int (nI mr), .int (nI ml), .int (nI mw), .int (nI ma), .ref yf, .ref yh, .ref yw, .ref yn, .ref yt, .ref yl, .int (nI tz)])), (yb, .inl (cB, 6000, .inl B)), (yf, .inl (cB, 2112, .inl F3)), (yw, .inl (cI, 16, .inl V3)), (yh, .inl (cI, 4, .inl H3)), (yn, .inl (cI, 64, .inl KN)), (yt, .inl (cI, 16, .inl KT))]) (st' := []) rfl rfl ?_
        refine k_aload_n X dX5_md5_34 rfl 0 rfl ?_
        refine k_iload_n X dX5_md5_35 rfl 2 rfl ?_
        refine k_callV (wc := [(m0, .inr (5, [.ref yb, .ref yz, .ref ye, .int (nI dz), .int (nI sz), .int (nI wz), .int (nI bz), .int (nI uS), .int (nI uW), .ref ys, .ref yg, .int (nI mr), .int (nI ml), .int (nI mw), .int (nI ma), .ref yf, .ref yh, .ref yw, .ref yn, .ref yt, .ref yl, .int (nI tz)])), (yh, .inl (cI, 4, .inl H3))]) (wr := [(yz, .inl (cI, 3, .inl (zf ko kn kr))), (yb, .inl (cB, 6000, .inl B)), (yf, .inl (cB, 2112, .inl F3)), (yw, .inl (cI, 16, .inl V3)), (yn, .inl (cI, 64, .inl KN)), (yt, .inl (cI, 16, .inl KT))]) (As := [.int (nI q)]) (n := 1) (st := []) (q0 := 0) X (m_digestByte l D cI cB m0 yb yz ye ys yg yf yh yw yn yt yl dz sz wz bz uS uW mr ml mw ma tz H3 q (hq)) rfl rfl ml_X5_147 im_X5_digestByte se_X5_digestByte ini_X5 co_X5_digestByte (by decide +kernel) rfl ⟨Nat.le_of_ble_eq_true rfl, Nat.le_of_ble_eq_true rfl⟩ (⟨by (try dsimp only); omega, by (try dsimp only); omega⟩) (Nat.le_of_ble_eq_true rfl) [1, 5] [0, 2, 3, 4, 6, 7] rfl rfl rfl (by decide) (by decide) (by decide) rfl dX5_md5_36 (fun v_36 u_36 hu_36 => ?_)
        obtain ⟨rfl, rfl⟩ := hu_36
        refine k_to (ws' := [(yz, .inl (cI, 3, .inl (zf ko kn kr))), (yb, .inl (cB, 6000, .inl B)), (yf, .inl (cB, 2112, .inl F3)), (yw, .inl (cI, 16, .inl V3)), (yn, .inl (cI, 64, .inl KN)), (yt, .inl (cI, 16, .inl KT)), (m0, .inr (5, [.ref yb, .ref yz, .ref ye, .int (nI dz), .int (nI sz), .int (nI wz), .int (nI bz), .int (nI uS), .int (nI uW), .ref ys, .ref yg, .int (nI mr), .int (nI ml), .int (nI mw), .int (nI ma), .ref yf, .ref yh, .ref yw, .ref yn, .ref yt, .ref yl, .int (nI tz)])), (yh, .inl (cI, 4, .inl H3))]) (st' := [.int (dByte H3 q)]) rfl rfl ?_
        refine k_as (y := dByte (mDig f 0 ko) q) (dByte_congr hH3 hq) ?_
        exact k_iret (u := [(m0, .inr (5, [.ref yb, .ref yz, .ref ye, .int (nI dz), .int (nI sz), .int (nI wz), .int (nI bz), .int (nI uS), .int (nI uW), .ref ys, .ref yg, .int (nI mr), .int (nI ml), .int (nI mw), .int (nI ma), .ref yf, .ref yh, .ref yw, .ref yn, .ref yt, .ref yl, .int (nI tz)])), (yb, .inl (cB, 6000, .inl B)), (yf, .inl (cB, 2112, .inl F3)), (yw, .inl (cI, 16, .inl V3)), (yh, .inl (cI, 4, .inl H3)), (yn, .inl (cI, 64, .inl KN)), (yt, .inl (cI, 16, .inl KT)), (yz, .inl (cI, 3, .inl (zf ko kn kr)))]) X hr [6, 1, 2, 3, 7, 4, 5, 0] (by decide) rfl rfl (⟨F3, V3, H3, rfl, rfl⟩) (by (try dsimp only); omega) (by (try dsimp only); omega) dX5_md5_39
      · exact absurd c_14 (by omega)
set_option maxHeartbeats 4000000 in
set_option maxRecDepth 100000 in
theorem m_md5_0f (l : Launch) (D : va_G) (cI cB : ClassId) (m0 : Nat) (yb : Nat) (yz : Nat) (ye : Nat) (ys : Nat) (yg : Nat) (yf : Nat) (yh : Nat) (yw : Nat) (yn : Nat) (yt : Nat) (yl : Nat) (dz : Nat) (sz : Nat) (wz : Nat) (bz : Nat) (uS : Nat) (uW : Nat) (mr : Nat) (ml : Nat) (mw : Nat) (ma : Nat) (tz : Nat) (q : Int32) (hq : ¬ (0 ≤ q.toInt ∧ q.toInt < 16)) : kC l yX5_md5 cX5_md5 3 (some .int) 1 20 (0) (0) D cI cB [.ref m0, .int 0, .int q] [(m0, .inr (5, [.ref yb, .ref yz, .ref ye, .int (nI dz), .int (nI sz), .int (nI wz), .int (nI bz), .int (nI uS), .int (nI uW), .ref ys, .ref yg, .int (nI mr), .int (nI ml), .int (nI mw), .int (nI ma), .ref yf, .ref yh, .ref yw, .ref yn, .ref yt, .ref yl, .int (nI tz)]))] (fun (vV : Option Value) (uU : va_W) => vV = some (.int (-1)) ∧ uU = [(m0, .inr (5, [.ref yb, .ref yz, .ref ye, .int (nI dz), .int (nI sz), .int (nI wz), .int (nI bz), .int (nI uS), .int (nI uW), .ref ys, .ref yg, .int (nI mr), .int (nI ml), .int (nI mw), .int (nI ma), .ref yf, .ref yh, .ref yw, .ref yn, .ref yt, .ref yl, .int (nI tz)]))]) := by
  refine k_entry (lv0 := [(0, .ref m0), (1, .int 0), (2, .int q)]) (by decide) (Nat.le_of_ble_eq_true rfl) rfl ?_
  intro zp ze zs zm zb zt zc zA X hr hin
  refine k_iload_n X dX5_md5_0 rfl 1 rfl ?_
  refine k_callS (wc := []) (wr := [(m0, .inr (5, [.ref yb, .ref yz, .ref ye, .int (nI dz), .int (nI sz), .int (nI wz), .int (nI bz), .int (nI uS), .int (nI uW), .ref ys, .ref yg, .int (nI mr), .int (nI ml), .int (nI mw), .int (nI ma), .ref yf, .ref yh, .ref yw, .ref yn, .ref yt, .ref yl, .int (nI tz)]))]) (As := [.int 0]) (n := 1) (st := []) X (m_isFile_0 l D cI cB  ) ml_X5_121 sm_X5_isFile ini_X5 co_X5_isFile (by decide +kernel) rfl ⟨Nat.le_of_ble_eq_true rfl, Nat.le_of_ble_eq_true rfl⟩ (⟨by (try dsimp only); omega, by (try dsimp only); omega⟩) (Nat.le_of_ble_eq_true rfl) [] [0] rfl rfl rfl (by decide) (by decide) (by decide) rfl dX5_md5_1 (fun v_1 u_1 hu_1 => ?_)
  obtain ⟨rfl, rfl⟩ := hu_1
  refine k_to (ws' := [(m0, .inr (5, [.ref yb, .ref yz, .ref ye, .int (nI dz), .int (nI sz), .int (nI wz), .int (nI bz), .int (nI uS), .int (nI uW), .ref ys, .ref yg, .int (nI mr), .int (nI ml), .int (nI mw), .int (nI ma), .ref yf, .ref yh, .ref yw, .ref yn, .ref yt, .ref yl, .int (nI tz)]))]) (st' := [.int 1]) rfl rfl ?_
  refine k_if_eq (tgt := 17) (xi := (1 : Int)) X (by decide) dX5_md5_4 (by decide) (fun c_4 => ?_) (fun c_4 => ?_)
  · exact absurd c_4 (by decide)
  · refine k_iload_n X dX5_md5_7 rfl 2 rfl ?_
    refine k_if_lt (tgt := 17) (xi := q.toInt) X (rfl) dX5_md5_8 (by decide) (fun c_8 => ?_) (fun c_8 => ?_)
    · refine k_iconst (v := -1) X dX5_md5_17 (by decide) ?_
      exact k_iret (u := [(m0, .inr (5, [.ref yb, .ref yz, .ref ye, .int (nI dz), .int (nI sz), .int (nI wz), .int (nI bz), .int (nI uS), .int (nI uW), .ref ys, .ref yg, .int (nI mr), .int (nI ml), .int (nI mw), .int (nI ma), .ref yf, .ref yh, .ref yw, .ref yn, .ref yt, .ref yl, .int (nI tz)]))]) X hr [0] (by decide) rfl rfl (⟨rfl, rfl⟩) (by (try dsimp only); omega) (by (try dsimp only); omega) dX5_md5_18
    · refine k_iload_n X dX5_md5_11 rfl 2 rfl ?_
      refine k_bipush (v := 15) X dX5_md5_12 (by decide) ?_
      refine k_icmp_le (tgt := 19) (xi := q.toInt) (yi := (15 : Int)) X (rfl) (by decide) dX5_md5_14 (by decide) (fun c_14 => ?_) (fun c_14 => ?_)
      · exact absurd c_14 (by omega)
      · refine k_iconst (v := -1) X dX5_md5_17 (by decide) ?_
        exact k_iret (u := [(m0, .inr (5, [.ref yb, .ref yz, .ref ye, .int (nI dz), .int (nI sz), .int (nI wz), .int (nI bz), .int (nI uS), .int (nI uW), .ref ys, .ref yg, .int (nI mr), .int (nI ml), .int (nI mw), .int (nI ma), .ref yf, .ref yh, .ref yw, .ref yn, .ref yt, .ref yl, .int (nI tz)]))]) X hr [0] (by decide) rfl rfl (⟨rfl, rfl⟩) (by (try dsimp only); omega) (by (try dsimp only); omega) dX5_md5_18
set_option maxHeartbeats 4000000 in
set_option maxRecDepth 100000 in
theorem m_md5_1 (l : Launch) (D : va_G) (cI cB : ClassId) (m0 : Nat) (yb : Nat) (yz : Nat) (ye : Nat) (ys : Nat) (yg : Nat) (yf : Nat) (yh : Nat) (yw : Nat) (yn : Nat) (yt : Nat) (yl : Nat) (dz : Nat) (sz : Nat) (wz : Nat) (bz : Nat) (uS : Nat) (uW : Nat) (mr : Nat) (ml : Nat) (mw : Nat) (ma : Nat) (tz : Nat) (B : Nat → Int32) (F : Nat → Int32) (V : Nat → Int32) (H : Nat → Int32) (KN : Nat → Int32) (KT : Nat → Int32) (f : Nat → Int32) (ko : Nat) (kn : Nat) (kr : Nat) (q : Nat) (hk : kn ≤ 2000) (hB : ∀ j, j < kn → (B (2000 + j) &&& 255) = f j) (hKN : ∀ j, j < 64 → KN j = kSin j) (hKT : ∀ j, j < 16 → KT j = kTrn j) (hq : q < 16) : kC l yX5_md5 cX5_md5 3 (some .int) 2 57 (0) (0) D cI cB [.ref m0, .int 1, .int (nI q)] [(m0, .inr (5, [.ref yb, .ref yz, .ref ye, .int (nI dz), .int (nI sz), .int (nI wz), .int (nI bz), .int (nI uS), .int (nI uW), .ref ys, .ref yg, .int (nI mr), .int (nI ml), .int (nI mw), .int (nI ma), .ref yf, .ref yh, .ref yw, .ref yn, .ref yt, .ref yl, .int (nI tz)])), (yb, .inl (cB, 6000, .inl B)), (yf, .inl (cB, 2112, .inl F)), (yw, .inl (cI, 16, .inl V)), (yh, .inl (cI, 4, .inl H)), (yn, .inl (cI, 64, .inl KN)), (yt, .inl (cI, 16, .inl KT)), (yz, .inl (cI, 3, .inl (zf ko kn kr)))] (fun (vV : Option Value) (uU : va_W) => ∃ (F9 : Nat → Int32) (V9 : Nat → Int32) (H9 : Nat → Int32), vV = some (.int (dByte (mDig f 0 kn) q)) ∧ uU = [(m0, .inr (5, [.ref yb, .ref yz, .ref ye, .int (nI dz), .int (nI sz), .int (nI wz), .int (nI bz), .int (nI uS), .int (nI uW), .ref ys, .ref yg, .int (nI mr), .int (nI ml), .int (nI mw), .int (nI ma), .ref yf, .ref yh, .ref yw, .ref yn, .ref yt, .ref yl, .int (nI tz)])), (yb, .inl (cB, 6000, .inl B)), (yf, .inl (cB, 2112, .inl F9)), (yw, .inl (cI, 16, .inl V9)), (yh, .inl (cI, 4, .inl H9)), (yn, .inl (cI, 64, .inl KN)), (yt, .inl (cI, 16, .inl KT)), (yz, .inl (cI, 3, .inl (zf ko kn kr)))]) := by
  refine k_entry (lv0 := [(0, .ref m0), (1, .int 1), (2, .int (nI q))]) (by decide) (Nat.le_of_ble_eq_true rfl) rfl ?_
  intro zp ze zs zm zb zt zc zA X hr hin
  refine k_iload_n X dX5_md5_0 rfl 1 rfl ?_
  refine k_callS (wc := []) (wr := [(m0, .inr (5, [.ref yb, .ref yz, .ref ye, .int (nI dz), .int (nI sz), .int (nI wz), .int (nI bz), .int (nI uS), .int (nI uW), .ref ys, .ref yg, .int (nI mr), .int (nI ml), .int (nI mw), .int (nI ma), .ref yf, .ref yh, .ref yw, .ref yn, .ref yt, .ref yl, .int (nI tz)])), (yb, .inl (cB, 6000, .inl B)), (yf, .inl (cB, 2112, .inl F)), (yw, .inl (cI, 16, .inl V)), (yh, .inl (cI, 4, .inl H)), (yn, .inl (cI, 64, .inl KN)), (yt, .inl (cI, 16, .inl KT)), (yz, .inl (cI, 3, .inl (zf ko kn kr)))]) (As := [.int 1]) (n := 1) (st := []) X (m_isFile_1 l D cI cB  ) ml_X5_121 sm_X5_isFile ini_X5 co_X5_isFile (by decide +kernel) rfl ⟨Nat.le_of_ble_eq_true rfl, Nat.le_of_ble_eq_true rfl⟩ (⟨by (try dsimp only); omega, by (try dsimp only); omega⟩) (Nat.le_of_ble_eq_true rfl) [] [0, 1, 2, 3, 4, 5, 6, 7] rfl rfl rfl (by decide) (by decide) (by decide) rfl dX5_md5_1 (fun v_1 u_1 hu_1 => ?_)
  obtain ⟨rfl, rfl⟩ := hu_1
  refine k_to (ws' := [(m0, .inr (5, [.ref yb, .ref yz, .ref ye, .int (nI dz), .int (nI sz), .int (nI wz), .int (nI bz), .int (nI uS), .int (nI uW), .ref ys, .ref yg, .int (nI mr), .int (nI ml), .int (nI mw), .int (nI ma), .ref yf, .ref yh, .ref yw, .ref yn, .ref yt, .ref yl, .int (nI tz)])), (yb, .inl (cB, 6000, .inl B)), (yf, .inl (cB, 2112, .inl F)), (yw, .inl (cI, 16, .inl V)), (yh, .inl (cI, 4, .inl H)), (yn, .inl (cI, 64, .inl KN)), (yt, .inl (cI, 16, .inl KT)), (yz, .inl (cI, 3, .inl (zf ko kn kr)))]) (st' := [.int 1]) rfl rfl ?_
  refine k_if_eq (tgt := 17) (xi := (1 : Int)) X (by decide) dX5_md5_4 (by decide) (fun c_4 => ?_) (fun c_4 => ?_)
  · exact absurd c_4 (by decide)
  · refine k_iload_n X dX5_md5_7 rfl 2 rfl ?_
    refine k_if_lt (tgt := 17) (xi := ((q : Nat) : Int)) X (nI_toInt (by omega)) dX5_md5_8 (by decide) (fun c_8 => ?_) (fun c_8 => ?_)
    · exact absurd c_8 (by omega)
    · refine k_iload_n X dX5_md5_11 rfl 2 rfl ?_
      refine k_bipush (v := 15) X dX5_md5_12 (by decide) ?_
      refine k_icmp_le (tgt := 19) (xi := ((q : Nat) : Int)) (yi := (15 : Int)) X (nI_toInt (by omega)) (by decide) dX5_md5_14 (by decide) (fun c_14 => ?_) (fun c_14 => ?_)
      · refine k_aload_n X dX5_md5_19 rfl 0 rfl ?_
        refine k_sipush (v := 2000) X dX5_md5_20 (by decide) ?_
        refine k_iload_n X dX5_md5_23 rfl 1 rfl ?_
        refine k_imul X dX5_md5_24 ?_
        refine k_as (y := nI 2000) (by decide) ?_
        refine k_aload_n X dX5_md5_25 rfl 0 rfl ?_
        refine k_get (v := .ref yz) X 0 5 1 rfl rfl (by decide) fl_X5_13 in_X5 rfl rfl dX5_md5_26 ?_
        refine k_iload_n X dX5_md5_29 rfl 1 rfl ?_
        refine k_iald (v := (zf ko kn kr) 1) X 7 rfl (vp_in_nI (n := 1) (by omega) (by omega)) (by rw [show ((1 : Int32).toNatClampNeg) = 1 from rfl]) dX5_md5_30 ?_
        refine k_as (y := nI kn) (rfl) ?_
        refine k_callV (wc := [(m0, .inr (5, [.ref yb, .ref yz, .ref ye, .int (nI dz), .int (nI sz), .int (nI wz), .int (nI bz), .int (nI uS), .int (nI uW), .ref ys, .ref yg, .int (nI mr), .int (nI ml), .int (nI mw), .int (nI ma), .ref yf, .ref yh, .ref yw, .ref yn, .ref yt, .ref yl, .int (nI tz)])), (yb, .inl (cB, 6000, .inl B)), (yf, .inl (cB, 2112, .inl F)), (yw, .inl (cI, 16, .inl V)), (yh, .inl (cI, 4, .inl H)), (yn, .inl (cI, 64, .inl KN)), (yt, .inl (cI, 16, .inl KT))]) (wr := [(yz, .inl (cI, 3, .inl (zf ko kn kr)))]) (As := [.int (nI 2000), .int (nI kn)]) (n := 2) (st := []) (q0 := 0) X (m_digestOf l D cI cB m0 yb yz ye ys yg yf yh yw yn yt yl dz sz wz bz uS uW mr ml mw ma tz B F V H KN KT f 0 2000 kn (by omega) (hk) (fun j hj => (hB j hj).trans (by rw [Nat.zero_add])) (hKN) (hKT)) rfl rfl ml_X5_143 im_X5_digestOf se_X5_digestOf ini_X5 co_X5_digestOf (by decide +kernel) rfl ⟨Nat.le_of_ble_eq_true rfl, Nat.le_of_ble_eq_true rfl⟩ (⟨by (try dsimp only); omega, by (try dsimp only); omega⟩) (Nat.le_of_ble_eq_true rfl) [0, 1, 2, 3, 4, 5, 6] [7] rfl rfl rfl (by decide) (by decide) (by decide) rfl dX5_md5_31 (fun v_31 u_31 hu_31 => ?_)
        obtain ⟨F3, V3, H3, rfl, rfl, hH3⟩ := hu_31
        refine k_to (ws' := [(yz, .inl (cI, 3, .inl (zf ko kn kr))), (m0, .inr (5, [.ref yb, .ref yz, .ref ye, .int (nI dz), .int (nI sz), .int (nI wz), .int (nI bz), .int (nI uS), .int (nI uW), .ref ys, .ref yg, .int (nI mr), .int (nI ml), .int (nI mw), .int (nI ma), .ref yf, .ref yh, .ref yw, .ref yn, .ref yt, .ref yl, .int (nI tz)])), (yb, .inl (cB, 6000, .inl B)), (yf, .inl (cB, 2112, .inl F3)), (yw, .inl (cI, 16, .inl V3)), (yh, .inl (cI, 4, .inl H3)), (yn, .inl (cI, 64, .inl KN)), (yt, .inl (cI, 16, .inl KT))]) (st' := []) rfl rfl ?_
        refine k_aload_n X dX5_md5_34 rfl 0 rfl ?_
        refine k_iload_n X dX5_md5_35 rfl 2 rfl ?_
        refine k_callV (wc := [(m0, .inr (5, [.ref yb, .ref yz, .ref ye, .int (nI dz), .int (nI sz), .int (nI wz), .int (nI bz), .int (nI uS), .int (nI uW), .ref ys, .ref yg, .int (nI mr), .int (nI ml), .int (nI mw), .int (nI ma), .ref yf, .ref yh, .ref yw, .ref yn, .ref yt, .ref yl, .int (nI tz)])), (yh, .inl (cI, 4, .inl H3))]) (wr := [(yz, .inl (cI, 3, .inl (zf ko kn kr))), (yb, .inl (cB, 6000, .inl B)), (yf, .inl (cB, 2112, .inl F3)), (yw, .inl (cI, 16, .inl V3)), (yn, .inl (cI, 64, .inl KN)), (yt, .inl (cI, 16, .inl KT))]) (As := [.int (nI q)]) (n := 1) (st := []) (q0 := 0) X (m_digestByte l D cI cB m0 yb yz ye ys yg yf yh yw yn yt yl dz sz wz bz uS uW mr ml mw ma tz H3 q (hq)) rfl rfl ml_X5_147 im_X5_digestByte se_X5_digestByte ini_X5 co_X5_digestByte (by decide +kernel) rfl ⟨Nat.le_of_ble_eq_true rfl, Nat.le_of_ble_eq_true rfl⟩ (⟨by (try dsimp only); omega, by (try dsimp only); omega⟩) (Nat.le_of_ble_eq_true rfl) [1, 5] [0, 2, 3, 4, 6, 7] rfl rfl rfl (by decide) (by decide) (by decide) rfl dX5_md5_36 (fun v_36 u_36 hu_36 => ?_)
        obtain ⟨rfl, rfl⟩ := hu_36
        refine k_to (ws' := [(yz, .inl (cI, 3, .inl (zf ko kn kr))), (yb, .inl (cB, 6000, .inl B)), (yf, .inl (cB, 2112, .inl F3)), (yw, .inl (cI, 16, .inl V3)), (yn, .inl (cI, 64, .inl KN)), (yt, .inl (cI, 16, .inl KT)), (m0, .inr (5, [.ref yb, .ref yz, .ref ye, .int (nI dz), .int (nI sz), .int (nI wz), .int (nI bz), .int (nI uS), .int (nI uW), .ref ys, .ref yg, .int (nI mr), .int (nI ml), .int (nI mw), .int (nI ma), .ref yf, .ref yh, .ref yw, .ref yn, .ref yt, .ref yl, .int (nI tz)])), (yh, .inl (cI, 4, .inl H3))]) (st' := [.int (dByte H3 q)]) rfl rfl ?_
        refine k_as (y := dByte (mDig f 0 kn) q) (dByte_congr hH3 hq) ?_
        exact k_iret (u := [(m0, .inr (5, [.ref yb, .ref yz, .ref ye, .int (nI dz), .int (nI sz), .int (nI wz), .int (nI bz), .int (nI uS), .int (nI uW), .ref ys, .ref yg, .int (nI mr), .int (nI ml), .int (nI mw), .int (nI ma), .ref yf, .ref yh, .ref yw, .ref yn, .ref yt, .ref yl, .int (nI tz)])), (yb, .inl (cB, 6000, .inl B)), (yf, .inl (cB, 2112, .inl F3)), (yw, .inl (cI, 16, .inl V3)), (yh, .inl (cI, 4, .inl H3)), (yn, .inl (cI, 64, .inl KN)), (yt, .inl (cI, 16, .inl KT)), (yz, .inl (cI, 3, .inl (zf ko kn kr)))]) X hr [6, 1, 2, 3, 7, 4, 5, 0] (by decide) rfl rfl (⟨F3, V3, H3, rfl, rfl⟩) (by (try dsimp only); omega) (by (try dsimp only); omega) dX5_md5_39
      · exact absurd c_14 (by omega)
set_option maxHeartbeats 4000000 in
set_option maxRecDepth 100000 in
theorem m_md5_1f (l : Launch) (D : va_G) (cI cB : ClassId) (m0 : Nat) (yb : Nat) (yz : Nat) (ye : Nat) (ys : Nat) (yg : Nat) (yf : Nat) (yh : Nat) (yw : Nat) (yn : Nat) (yt : Nat) (yl : Nat) (dz : Nat) (sz : Nat) (wz : Nat) (bz : Nat) (uS : Nat) (uW : Nat) (mr : Nat) (ml : Nat) (mw : Nat) (ma : Nat) (tz : Nat) (q : Int32) (hq : ¬ (0 ≤ q.toInt ∧ q.toInt < 16)) : kC l yX5_md5 cX5_md5 3 (some .int) 1 20 (0) (0) D cI cB [.ref m0, .int 1, .int q] [(m0, .inr (5, [.ref yb, .ref yz, .ref ye, .int (nI dz), .int (nI sz), .int (nI wz), .int (nI bz), .int (nI uS), .int (nI uW), .ref ys, .ref yg, .int (nI mr), .int (nI ml), .int (nI mw), .int (nI ma), .ref yf, .ref yh, .ref yw, .ref yn, .ref yt, .ref yl, .int (nI tz)]))] (fun (vV : Option Value) (uU : va_W) => vV = some (.int (-1)) ∧ uU = [(m0, .inr (5, [.ref yb, .ref yz, .ref ye, .int (nI dz), .int (nI sz), .int (nI wz), .int (nI bz), .int (nI uS), .int (nI uW), .ref ys, .ref yg, .int (nI mr), .int (nI ml), .int (nI mw), .int (nI ma), .ref yf, .ref yh, .ref yw, .ref yn, .ref yt, .ref yl, .int (nI tz)]))]) := by
  refine k_entry (lv0 := [(0, .ref m0), (1, .int 1), (2, .int q)]) (by decide) (Nat.le_of_ble_eq_true rfl) rfl ?_
  intro zp ze zs zm zb zt zc zA X hr hin
  refine k_iload_n X dX5_md5_0 rfl 1 rfl ?_
  refine k_callS (wc := []) (wr := [(m0, .inr (5, [.ref yb, .ref yz, .ref ye, .int (nI dz), .int (nI sz), .int (nI wz), .int (nI bz), .int (nI uS), .int (nI uW), .ref ys, .ref yg, .int (nI mr), .int (nI ml), .int (nI mw), .int (nI ma), .ref yf, .ref yh, .ref yw, .ref yn, .ref yt, .ref yl, .int (nI tz)]))]) (As := [.int 1]) (n := 1) (st := []) X (m_isFile_1 l D cI cB  ) ml_X5_121 sm_X5_isFile ini_X5 co_X5_isFile (by decide +kernel) rfl ⟨Nat.le_of_ble_eq_true rfl, Nat.le_of_ble_eq_true rfl⟩ (⟨by (try dsimp only); omega, by (try dsimp only); omega⟩) (Nat.le_of_ble_eq_true rfl) [] [0] rfl rfl rfl (by decide) (by decide) (by decide) rfl dX5_md5_1 (fun v_1 u_1 hu_1 => ?_)
  obtain ⟨rfl, rfl⟩ := hu_1
  refine k_to (ws' := [(m0, .inr (5, [.ref yb, .ref yz, .ref ye, .int (nI dz), .int (nI sz), .int (nI wz), .int (nI bz), .int (nI uS), .int (nI uW), .ref ys, .ref yg, .int (nI mr), .int (nI ml), .int (nI mw), .int (nI ma), .ref yf, .ref yh, .ref yw, .ref yn, .ref yt, .ref yl, .int (nI tz)]))]) (st' := [.int 1]) rfl rfl ?_
  refine k_if_eq (tgt := 17) (xi := (1 : Int)) X (by decide) dX5_md5_4 (by decide) (fun c_4 => ?_) (fun c_4 => ?_)
  · exact absurd c_4 (by decide)
  · refine k_iload_n X dX5_md5_7 rfl 2 rfl ?_
    refine k_if_lt (tgt := 17) (xi := q.toInt) X (rfl) dX5_md5_8 (by decide) (fun c_8 => ?_) (fun c_8 => ?_)
    · refine k_iconst (v := -1) X dX5_md5_17 (by decide) ?_
      exact k_iret (u := [(m0, .inr (5, [.ref yb, .ref yz, .ref ye, .int (nI dz), .int (nI sz), .int (nI wz), .int (nI bz), .int (nI uS), .int (nI uW), .ref ys, .ref yg, .int (nI mr), .int (nI ml), .int (nI mw), .int (nI ma), .ref yf, .ref yh, .ref yw, .ref yn, .ref yt, .ref yl, .int (nI tz)]))]) X hr [0] (by decide) rfl rfl (⟨rfl, rfl⟩) (by (try dsimp only); omega) (by (try dsimp only); omega) dX5_md5_18
    · refine k_iload_n X dX5_md5_11 rfl 2 rfl ?_
      refine k_bipush (v := 15) X dX5_md5_12 (by decide) ?_
      refine k_icmp_le (tgt := 19) (xi := q.toInt) (yi := (15 : Int)) X (rfl) (by decide) dX5_md5_14 (by decide) (fun c_14 => ?_) (fun c_14 => ?_)
      · exact absurd c_14 (by omega)
      · refine k_iconst (v := -1) X dX5_md5_17 (by decide) ?_
        exact k_iret (u := [(m0, .inr (5, [.ref yb, .ref yz, .ref ye, .int (nI dz), .int (nI sz), .int (nI wz), .int (nI bz), .int (nI uS), .int (nI uW), .ref ys, .ref yg, .int (nI mr), .int (nI ml), .int (nI mw), .int (nI ma), .ref yf, .ref yh, .ref yw, .ref yn, .ref yt, .ref yl, .int (nI tz)]))]) X hr [0] (by decide) rfl rfl (⟨rfl, rfl⟩) (by (try dsimp only); omega) (by (try dsimp only); omega) dX5_md5_18
set_option maxHeartbeats 4000000 in
set_option maxRecDepth 100000 in
theorem m_md5_f (l : Launch) (D : va_G) (cI cB : ClassId) (m0 : Nat) (yb : Nat) (yz : Nat) (ye : Nat) (ys : Nat) (yg : Nat) (yf : Nat) (yh : Nat) (yw : Nat) (yn : Nat) (yt : Nat) (yl : Nat) (dz : Nat) (sz : Nat) (wz : Nat) (bz : Nat) (uS : Nat) (uW : Nat) (mr : Nat) (ml : Nat) (mw : Nat) (ma : Nat) (tz : Nat) (wh : Int32) (q : Int32) (hwh : ¬ wh.toInt = 0 ∧ ¬ wh.toInt = 1) : kC l yX5_md5 cX5_md5 3 (some .int) 1 20 (0) (0) D cI cB [.ref m0, .int wh, .int q] [(m0, .inr (5, [.ref yb, .ref yz, .ref ye, .int (nI dz), .int (nI sz), .int (nI wz), .int (nI bz), .int (nI uS), .int (nI uW), .ref ys, .ref yg, .int (nI mr), .int (nI ml), .int (nI mw), .int (nI ma), .ref yf, .ref yh, .ref yw, .ref yn, .ref yt, .ref yl, .int (nI tz)]))] (fun (vV : Option Value) (uU : va_W) => vV = some (.int (-1)) ∧ uU = [(m0, .inr (5, [.ref yb, .ref yz, .ref ye, .int (nI dz), .int (nI sz), .int (nI wz), .int (nI bz), .int (nI uS), .int (nI uW), .ref ys, .ref yg, .int (nI mr), .int (nI ml), .int (nI mw), .int (nI ma), .ref yf, .ref yh, .ref yw, .ref yn, .ref yt, .ref yl, .int (nI tz)]))]) := by
  refine k_entry (lv0 := [(0, .ref m0), (1, .int wh), (2, .int q)]) (by decide) (Nat.le_of_ble_eq_true rfl) rfl ?_
  intro zp ze zs zm zb zt zc zA X hr hin
  refine k_iload_n X dX5_md5_0 rfl 1 rfl ?_
  refine k_callS (wc := []) (wr := [(m0, .inr (5, [.ref yb, .ref yz, .ref ye, .int (nI dz), .int (nI sz), .int (nI wz), .int (nI bz), .int (nI uS), .int (nI uW), .ref ys, .ref yg, .int (nI mr), .int (nI ml), .int (nI mw), .int (nI ma), .ref yf, .ref yh, .ref yw, .ref yn, .ref yt, .ref yl, .int (nI tz)]))]) (As := [.int wh]) (n := 1) (st := []) X (m_isFile_f l D cI cB wh (hwh)) ml_X5_121 sm_X5_isFile ini_X5 co_X5_isFile (by decide +kernel) rfl ⟨Nat.le_of_ble_eq_true rfl, Nat.le_of_ble_eq_true rfl⟩ (⟨by (try dsimp only); omega, by (try dsimp only); omega⟩) (Nat.le_of_ble_eq_true rfl) [] [0] rfl rfl rfl (by decide) (by decide) (by decide) rfl dX5_md5_1 (fun v_1 u_1 hu_1 => ?_)
  obtain ⟨rfl, rfl⟩ := hu_1
  refine k_to (ws' := [(m0, .inr (5, [.ref yb, .ref yz, .ref ye, .int (nI dz), .int (nI sz), .int (nI wz), .int (nI bz), .int (nI uS), .int (nI uW), .ref ys, .ref yg, .int (nI mr), .int (nI ml), .int (nI mw), .int (nI ma), .ref yf, .ref yh, .ref yw, .ref yn, .ref yt, .ref yl, .int (nI tz)]))]) (st' := [.int 0]) rfl rfl ?_
  refine k_if_eq (tgt := 17) (xi := (0 : Int)) X (by decide) dX5_md5_4 (by decide) (fun c_4 => ?_) (fun c_4 => ?_)
  · refine k_iconst (v := -1) X dX5_md5_17 (by decide) ?_
    exact k_iret (u := [(m0, .inr (5, [.ref yb, .ref yz, .ref ye, .int (nI dz), .int (nI sz), .int (nI wz), .int (nI bz), .int (nI uS), .int (nI uW), .ref ys, .ref yg, .int (nI mr), .int (nI ml), .int (nI mw), .int (nI ma), .ref yf, .ref yh, .ref yw, .ref yn, .ref yt, .ref yl, .int (nI tz)]))]) X hr [0] (by decide) rfl rfl (⟨rfl, rfl⟩) (by (try dsimp only); omega) (by (try dsimp only); omega) dX5_md5_18
  · exact absurd c_4 (by decide)
