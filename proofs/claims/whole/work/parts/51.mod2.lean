/-! the reference: sums and digests -/
theorem bp_b (x : Int32) : x.toInt8.toInt32 &&& 255 = x &&& 255 := by
  apply Int32.toBitVec_inj.mp
  rw [Int32.toBitVec_and, Int32.toBitVec_and, Int8.toBitVec_toInt32, Int32.toBitVec_toInt8]
  apply BitVec.eq_of_getLsbD_eq
  intro i hi
  rw [BitVec.getLsbD_and, BitVec.getLsbD_and]
  have hm : ∀ i < 32, 8 ≤ i → (255 : Int32).toBitVec.getLsbD i = false := by decide
  rcases Nat.lt_or_ge i 8 with z | z
  · rw [BitVec.getLsbD_signExtend, BitVec.getLsbD_signExtend, if_pos z, if_pos hi]
    simp only [z, hi, decide_true, Bool.true_and]
  · rw [hm i hi z]; simp
theorem and65 (y : Int32) : y &&& 65535 = nI (mN y) := pk_and y 16 (by decide)
theorem mN_nI (s : Int32) : mN (nI (mN s)) = mN s := by
  have h := mN_lt s
  show (nI (mN s)).toBitVec.toNat % 65536 = _
  rw [pk_tn (by omega)]
  omega
theorem mA_step (a y : Int32) : (nI (mN a) + y) &&& 65535 = nI (mN (a + y)) := by
  rw [and65, mN_add, mN_nI, ← mN_add]
theorem mB_step {f : Nat → Int32} {x n i : Nat} (h : i < n) : (nI (mN (sB f x i + nI (n - i) * sA f x i)) + (nI n - nI i) * f (x + i)) &&& 65535 = nI (mN (sB f x (i + 1) + nI (n - (i + 1)) * sA f x (i + 1))) := by
  rw [pk_sub (Nat.le_of_lt h), mA_step]
  congr 2
  show _ = sB f x i + (sA f x i + f (x + i)) + nI (n - (i + 1)) * (sA f x i + f (x + i))
  have e : nI (n - i) = nI (n - (i + 1)) + 1 := by rw [nI_1]; congr 1; omega
  rw [e]
  grind
theorem mB_0 (f : Nat → Int32) (x n : Nat) : (0 : Int32) = nI (mN (sB f x 0 + nI (n - 0) * sA f x 0)) := by
  have e : sB f x 0 + nI (n - 0) * sA f x 0 = 0 := by
    show (0 : Int32) + nI (n - 0) * 0 = 0
    grind
  rw [e]
  rfl
theorem m_fin (a b : Int32) : (nI (mN b) <<< ((16 : Int32) &&& 31)) ||| nI (mN a) = sJ a b := by
  rw [← and65 a]
  exact sJ_ext rfl (mN_nI b)
theorem m_fin2 {f : Nat → Int32} {x n i : Nat} (h : i = n) : (nI (mN (sB f x i + nI (n - i) * sA f x i)) <<< ((16 : Int32) &&& 31)) ||| nI (mN (sA f x i)) = sSum f x n := by
  rw [m_fin, h, Nat.sub_self]
  unfold sSum
  congr 1
  rw [nI_0]
  grind
def w4 (a b c d : Int32) : Int32 := (((((((0 : Int32) <<< ((8 : Int32) &&& 31)) ||| d) <<< ((8 : Int32) &&& 31)) ||| c) <<< ((8 : Int32) &&& 31)) ||| b) <<< ((8 : Int32) &&& 31) ||| a
def wd4 (F : Nat → Int32) (at_ j : Nat) : Int32 := w4 (F (at_ + 4 * j + 0) &&& 255) (F (at_ + 4 * j + 1) &&& 255) (F (at_ + 4 * j + 2) &&& 255) (F (at_ + 4 * j + 3) &&& 255)
theorem mF_1 (b c d : Int32) : (d &&& b) ||| ((d ^^^ (-1)) &&& c) = mF 1 b c d := by
  show _ = (b &&& d) ||| (c &&& (d ^^^ (-1)))
  rw [Int32.and_comm d b, Int32.and_comm (d ^^^ (-1)) c]
theorem n_rem {a d : Nat} (ha : a < 2 ^ 31) (h0 : 0 < d) (hd : d < 2 ^ 31) : nI a - nI a / nI d * nI d = nI (a % d) := pk_rem ha h0 hd
set_option maxHeartbeats 4000000 in
set_option maxRecDepth 100000 in
theorem m_sumOf (l : Launch) (D : va_G) (cI cB : ClassId) (m0 : Nat) (yb : Nat) (yz : Nat) (ye : Nat) (ys : Nat) (yg : Nat) (yf : Nat) (yh : Nat) (yw : Nat) (yn : Nat) (yt : Nat) (yl : Nat) (dz : Nat) (sz : Nat) (wz : Nat) (bz : Nat) (uS : Nat) (uW : Nat) (mr : Nat) (ml : Nat) (mw : Nat) (ma : Nat) (tz : Nat) (B : Nat → Int32) (f : Nat → Int32) (x : Nat) (fr_ : Nat) (n : Nat) (hfn : fr_ + n ≤ 6000) (hB : ∀ j, j < n → (B (fr_ + j) &&& 255) = f (x + j)) : kC l yX5_sumOf cX5_sumOf 7 (some .int) 0 0 (0) (0) D cI cB [.ref m0, .int (nI fr_), .int (nI n)] [(m0, .inr (5, [.ref yb, .ref yz, .ref ye, .int (nI dz), .int (nI sz), .int (nI wz), .int (nI bz), .int (nI uS), .int (nI uW), .ref ys, .ref yg, .int (nI mr), .int (nI ml), .int (nI mw), .int (nI ma), .ref yf, .ref yh, .ref yw, .ref yn, .ref yt, .ref yl, .int (nI tz)])), (yb, .inl (cB, 6000, .inl B))] (fun (vV : Option Value) (uU : va_W) => vV = some (.int (sSum f x n)) ∧ uU = [(m0, .inr (5, [.ref yb, .ref yz, .ref ye, .int (nI dz), .int (nI sz), .int (nI wz), .int (nI bz), .int (nI uS), .int (nI uW), .ref ys, .ref yg, .int (nI mr), .int (nI ml), .int (nI mw), .int (nI ma), .ref yf, .ref yh, .ref yw, .ref yn, .ref yt, .ref yl, .int (nI tz)])), (yb, .inl (cB, 6000, .inl B))]) := by
  refine k_entry (lv0 := [(0, .ref m0), (1, .int (nI fr_)), (2, .int (nI n))]) (by decide) (Nat.le_of_ble_eq_true rfl) rfl ?_
  intro zp ze zs zm zb zt zc zA X hr hin
  refine k_iconst (v := 0) X dX5_sumOf_0 (by decide) ?_
  refine k_as (y := nI (mN (sA f x 0))) (rfl) ?_
  refine k_istore_n (lv' := [(3, .int (nI (mN (sA f x 0)))), (0, .ref m0), (1, .int (nI fr_)), (2, .int (nI n))]) X dX5_sumOf_1 rfl (by decide) rfl ?_
  refine k_iconst (v := 0) X dX5_sumOf_2 (by decide) ?_
  refine k_as (y := nI (mN (sB f x 0 + nI (n - 0) * sA f x 0))) (mB_0 f x n) ?_
  refine k_istore (lv' := [(4, .int (nI (mN (sB f x 0 + nI (n - 0) * sA f x 0)))), (3, .int (nI (mN (sA f x 0)))), (0, .ref m0), (1, .int (nI fr_)), (2, .int (nI n))]) X dX5_sumOf_3 (by decide) rfl ?_
  refine k_iconst (v := 0) X dX5_sumOf_5 (by decide) ?_
  refine k_istore (lv' := [(5, .int 0), (4, .int (nI (mN (sB f x 0 + nI (n - 0) * sA f x 0)))), (3, .int (nI (mN (sA f x 0)))), (0, .ref m0), (1, .int (nI fr_)), (2, .int (nI n))]) X dX5_sumOf_6 (by decide) rfl ?_
  refine k_lv (lv' := [(0, .ref m0), (1, .int (nI fr_)), (2, .int (nI n)), (3, .int (nI (mN (sA f x 0)))), (4, .int (nI (mN (sB f x 0 + nI (n - 0) * sA f x 0)))), (5, .int (nI 0))]) [3, 4, 5, 2, 1, 0] rfl ?_
  refine k_wide (k := 0) (n := 0) (by (try dsimp only); omega) (by (try dsimp only); omega) ?_
  refine k_loop1 (pc1 := 8) (cl := fun (i : Nat) => 0) (sl := fun (i : Nat) => 0) (wsf := fun (i : Nat) => [(m0, .inr (5, [.ref yb, .ref yz, .ref ye, .int (nI dz), .int (nI sz), .int (nI wz), .int (nI bz), .int (nI uS), .int (nI uW), .ref ys, .ref yg, .int (nI mr), .int (nI ml), .int (nI mw), .int (nI ma), .ref yf, .ref yh, .ref yw, .ref yn, .ref yt, .ref yl, .int (nI tz)])), (yb, .inl (cB, 6000, .inl B))]) (lvf := fun (i : Nat) => [(0, .ref m0), (1, .int (nI fr_)), (2, .int (nI n)), (3, .int (nI (mN (sA f x i)))), (4, .int (nI (mN (sB f x i + nI (n - i) * sA f x i)))), (5, .int (nI i))]) (stf := fun (i : Nat) => []) (I := fun (i : Nat) => i ≤ n) (mu := fun (i : Nat) => n - i) ?_ 0 (Nat.zero_le _)
  intro i hI ih
  try dsimp only at hI ih
  try dsimp only
  refine k_iload X dX5_sumOf_8 5 rfl ?_
  refine k_iload_n X dX5_sumOf_10 rfl 2 rfl ?_
  refine k_icmp_ge (tgt := 58) (xi := ((i : Nat) : Int)) (yi := ((n : Nat) : Int)) X (nI_toInt (by omega)) (nI_toInt (by omega)) dX5_sumOf_11 (by decide) (fun c_11 => ?_) (fun c_11 => ?_)
  · refine k_iload X dX5_sumOf_58 4 rfl ?_
    refine k_bipush (v := 16) X dX5_sumOf_60 (by decide) ?_
    refine k_ishl X dX5_sumOf_62 ?_
    refine k_iload_n X dX5_sumOf_63 rfl 3 rfl ?_
    refine k_ior X dX5_sumOf_64 ?_
    refine k_as (y := sSum f x n) (m_fin2 (by omega)) ?_
    exact k_iret (u := [(m0, .inr (5, [.ref yb, .ref yz, .ref ye, .int (nI dz), .int (nI sz), .int (nI wz), .int (nI bz), .int (nI uS), .int (nI uW), .ref ys, .ref yg, .int (nI mr), .int (nI ml), .int (nI mw), .int (nI ma), .ref yf, .ref yh, .ref yw, .ref yn, .ref yt, .ref yl, .int (nI tz)])), (yb, .inl (cB, 6000, .inl B))]) X hr [0, 1] (by decide) rfl rfl (⟨rfl, rfl⟩) (by (try dsimp only); omega) (by (try dsimp only); omega) dX5_sumOf_65
  · refine k_aload_n X dX5_sumOf_14 rfl 0 rfl ?_
    refine k_get (v := .ref yb) X 0 5 0 rfl rfl (by decide) fl_X5_7 in_X5 rfl rfl dX5_sumOf_15 ?_
    refine k_iload_n X dX5_sumOf_18 rfl 1 rfl ?_
    refine k_iload X dX5_sumOf_19 5 rfl ?_
    refine k_iadd X dX5_sumOf_21 ?_
    refine k_as (y := nI (fr_ + i)) (nI_add _ _) ?_
    refine k_bald (v := B (fr_ + i)) X 1 rfl (vp_in_nI (n := fr_ + i) (by omega) (by omega)) (by rw [nI_clamp (n := fr_ + i) (by omega)]) dX5_sumOf_22 ?_
    refine k_sipush (v := 255) X dX5_sumOf_23 (by decide) ?_
    refine k_iand X dX5_sumOf_26 ?_
    refine k_as (y := f (x + i)) (hB i (by omega)) ?_
    refine k_istore (lv' := [(6, .int (f (x + i))), (0, .ref m0), (1, .int (nI fr_)), (2, .int (nI n)), (3, .int (nI (mN (sA f x i)))), (4, .int (nI (mN (sB f x i + nI (n - i) * sA f x i)))), (5, .int (nI i))]) X dX5_sumOf_27 (by decide) rfl ?_
    refine k_iload_n X dX5_sumOf_29 rfl 4 rfl ?_
    refine k_iload X dX5_sumOf_30 0 rfl ?_
    refine k_iadd X dX5_sumOf_32 ?_
    refine k_ldc X kc_X5_125 dX5_sumOf_33 ?_
    refine k_iand X dX5_sumOf_35 ?_
    refine k_as (y := nI (mN (sA f x (i + 1)))) (mA_step _ _) ?_
    refine k_istore_n (lv' := [(3, .int (nI (mN (sA f x (i + 1))))), (6, .int (f (x + i))), (0, .ref m0), (1, .int (nI fr_)), (2, .int (nI n)), (4, .int (nI (mN (sB f x i + nI (n - i) * sA f x i)))), (5, .int (nI i))]) X dX5_sumOf_36 rfl (by decide) rfl ?_
    refine k_iload X dX5_sumOf_37 5 rfl ?_
    refine k_iload_n X dX5_sumOf_39 rfl 4 rfl ?_
    refine k_iload X dX5_sumOf_40 6 rfl ?_
    refine k_isub X dX5_sumOf_42 ?_
    refine k_iload X dX5_sumOf_43 1 rfl ?_
    refine k_imul X dX5_sumOf_45 ?_
    refine k_iadd X dX5_sumOf_46 ?_
    refine k_ldc X kc_X5_125 dX5_sumOf_47 ?_
    refine k_iand X dX5_sumOf_49 ?_
    refine k_as (y := nI (mN (sB f x (i + 1) + nI (n - (i + 1)) * sA f x (i + 1)))) (mB_step (by omega)) ?_
    refine k_istore (lv' := [(4, .int (nI (mN (sB f x (i + 1) + nI (n - (i + 1)) * sA f x (i + 1))))), (3, .int (nI (mN (sA f x (i + 1))))), (6, .int (f (x + i))), (0, .ref m0), (1, .int (nI fr_)), (2, .int (nI n)), (5, .int (nI i))]) X dX5_sumOf_50 (by decide) rfl ?_
    refine k_iinc (v := nI (i + 1)) (lv' := [(5, .int (nI (i + 1))), (4, .int (nI (mN (sB f x (i + 1) + nI (n - (i + 1)) * sA f x (i + 1))))), (3, .int (nI (mN (sA f x (i + 1))))), (6, .int (f (x + i))), (0, .ref m0), (1, .int (nI fr_)), (2, .int (nI n))]) X dX5_sumOf_52 6 rfl (nI_1 _) (by decide) rfl ?_
    refine k_goto (tgt := 8) X dX5_sumOf_55 (by decide) ?_
    refine k_lv (lv' := [(0, .ref m0), (1, .int (nI fr_)), (2, .int (nI n)), (3, .int (nI (mN (sA f x (i + 1))))), (4, .int (nI (mN (sB f x (i + 1) + nI (n - (i + 1)) * sA f x (i + 1))))), (5, .int (nI (i + 1)))]) [4, 5, 6, 2, 1, 0] rfl ?_
    refine k_sub (ws' := [(m0, .inr (5, [.ref yb, .ref yz, .ref ye, .int (nI dz), .int (nI sz), .int (nI wz), .int (nI bz), .int (nI uS), .int (nI uW), .ref ys, .ref yg, .int (nI mr), .int (nI ml), .int (nI mw), .int (nI ma), .ref yf, .ref yh, .ref yw, .ref yn, .ref yt, .ref yl, .int (nI tz)])), (yb, .inl (cB, 6000, .inl B))]) [0, 1] (by decide) rfl rfl ?_
    refine k_wide (k := 0) (n := 0) (by (try dsimp only); omega) (by (try dsimp only); omega) ?_
    exact ih (i + 1) (by omega) (by omega)
set_option maxHeartbeats 4000000 in
set_option maxRecDepth 100000 in
theorem m_sumAt_0 (l : Launch) (D : va_G) (cI cB : ClassId) (m0 : Nat) (yb : Nat) (yz : Nat) (ye : Nat) (ys : Nat) (yg : Nat) (yf : Nat) (yh : Nat) (yw : Nat) (yn : Nat) (yt : Nat) (yl : Nat) (dz : Nat) (sz : Nat) (wz : Nat) (bz : Nat) (uS : Nat) (uW : Nat) (mr : Nat) (ml : Nat) (mw : Nat) (ma : Nat) (tz : Nat) (B : Nat → Int32) (f : Nat → Int32) (ko : Nat) (kn : Nat) (kr : Nat) (x : Nat) (y : Nat) (hk : ko ≤ 2000) (hxy : x + y ≤ ko) (hB : ∀ j, j < ko → (B (0 + j) &&& 255) = f j) : kC l yX5_sumAt cX5_sumAt 4 (some .int) 1 26 (0) (0) D cI cB [.ref m0, .int 0, .int (nI x), .int (nI y)] [(m0, .inr (5, [.ref yb, .ref yz, .ref ye, .int (nI dz), .int (nI sz), .int (nI wz), .int (nI bz), .int (nI uS), .int (nI uW), .ref ys, .ref yg, .int (nI mr), .int (nI ml), .int (nI mw), .int (nI ma), .ref yf, .ref yh, .ref yw, .ref yn, .ref yt, .ref yl, .int (nI tz)])), (yb, .inl (cB, 6000, .inl B)), (yz, .inl (cI, 3, .inl (zf ko kn kr)))] (fun (vV : Option Value) (uU : va_W) => vV = some (.int (sSum f x y)) ∧ uU = [(m0, .inr (5, [.ref yb, .ref yz, .ref ye, .int (nI dz), .int (nI sz), .int (nI wz), .int (nI bz), .int (nI uS), .int (nI uW), .ref ys, .ref yg, .int (nI mr), .int (nI ml), .int (nI mw), .int (nI ma), .ref yf, .ref yh, .ref yw, .ref yn, .ref yt, .ref yl, .int (nI tz)])), (yb, .inl (cB, 6000, .inl B)), (yz, .inl (cI, 3, .inl (zf ko kn kr)))]) := by
  refine k_entry (lv0 := [(0, .ref m0), (1, .int 0), (2, .int (nI x)), (3, .int (nI y))]) (by decide) (Nat.le_of_ble_eq_true rfl) rfl ?_
  intro zp ze zs zm zb zt zc zA X hr hin
  refine k_iload_n X dX5_sumAt_0 rfl 1 rfl ?_
  refine k_callS (wc := []) (wr := [(m0, .inr (5, [.ref yb, .ref yz, .ref ye, .int (nI dz), .int (nI sz), .int (nI wz), .int (nI bz), .int (nI uS), .int (nI uW), .ref ys, .ref yg, .int (nI mr), .int (nI ml), .int (nI mw), .int (nI ma), .ref yf, .ref yh, .ref yw, .ref yn, .ref yt, .ref yl, .int (nI tz)])), (yb, .inl (cB, 6000, .inl B)), (yz, .inl (cI, 3, .inl (zf ko kn kr)))]) (As := [.int 0]) (n := 1) (st := []) X (m_isFile_0 l D cI cB  ) ml_X5_121 sm_X5_isFile ini_X5 co_X5_isFile (by decide +kernel) rfl ⟨Nat.le_of_ble_eq_true rfl, Nat.le_of_ble_eq_true rfl⟩ (⟨by (try dsimp only); omega, by (try dsimp only); omega⟩) (Nat.le_of_ble_eq_true rfl) [] [0, 1, 2] rfl rfl rfl (by decide) (by decide) (by decide) rfl dX5_sumAt_1 (fun v_1 u_1 hu_1 => ?_)
  obtain ⟨rfl, rfl⟩ := hu_1
  refine k_to (ws' := [(m0, .inr (5, [.ref yb, .ref yz, .ref ye, .int (nI dz), .int (nI sz), .int (nI wz), .int (nI bz), .int (nI uS), .int (nI uW), .ref ys, .ref yg, .int (nI mr), .int (nI ml), .int (nI mw), .int (nI ma), .ref yf, .ref yh, .ref yw, .ref yn, .ref yt, .ref yl, .int (nI tz)])), (yb, .inl (cB, 6000, .inl B)), (yz, .inl (cI, 3, .inl (zf ko kn kr)))]) (st' := [.int 1]) rfl rfl ?_
  refine k_if_eq (tgt := 37) (xi := (1 : Int)) X (by decide) dX5_sumAt_4 (by decide) (fun c_4 => ?_) (fun c_4 => ?_)
  · exact absurd c_4 (by decide)
  · refine k_iload_n X dX5_sumAt_7 rfl 2 rfl ?_
    refine k_if_lt (tgt := 37) (xi := ((x : Nat) : Int)) X (nI_toInt (by omega)) dX5_sumAt_8 (by decide) (fun c_8 => ?_) (fun c_8 => ?_)
    · exact absurd c_8 (by omega)
    · refine k_iload_n X dX5_sumAt_11 rfl 3 rfl ?_
      refine k_if_lt (tgt := 37) (xi := ((y : Nat) : Int)) X (nI_toInt (by omega)) dX5_sumAt_12 (by decide) (fun c_12 => ?_) (fun c_12 => ?_)
      · exact absurd c_12 (by omega)
      · refine k_iload_n X dX5_sumAt_15 rfl 2 rfl ?_
        refine k_aload_n X dX5_sumAt_16 rfl 0 rfl ?_
        refine k_get (v := .ref yz) X 0 5 1 rfl rfl (by decide) fl_X5_13 in_X5 rfl rfl dX5_sumAt_17 ?_
        refine k_iload_n X dX5_sumAt_20 rfl 1 rfl ?_
        refine k_iald (v := (zf ko kn kr) 0) X 2 rfl (vp_in_nI (n := 0) (by omega) (by omega)) (by rw [show ((0 : Int32).toNatClampNeg) = 0 from rfl]) dX5_sumAt_21 ?_
        refine k_as (y := nI ko) (rfl) ?_
        refine k_icmp_gt (tgt := 37) (xi := ((x : Nat) : Int)) (yi := ((ko : Nat) : Int)) X (nI_toInt (by omega)) (nI_toInt (by omega)) dX5_sumAt_22 (by decide) (fun c_22 => ?_) (fun c_22 => ?_)
        · exact absurd c_22 (by omega)
        · refine k_iload_n X dX5_sumAt_25 rfl 3 rfl ?_
          refine k_aload_n X dX5_sumAt_26 rfl 0 rfl ?_
          refine k_get (v := .ref yz) X 0 5 1 rfl rfl (by decide) fl_X5_13 in_X5 rfl rfl dX5_sumAt_27 ?_
          refine k_iload_n X dX5_sumAt_30 rfl 1 rfl ?_
          refine k_iald (v := (zf ko kn kr) 0) X 2 rfl (vp_in_nI (n := 0) (by omega) (by omega)) (by rw [show ((0 : Int32).toNatClampNeg) = 0 from rfl]) dX5_sumAt_31 ?_
          refine k_as (y := nI ko) (rfl) ?_
          refine k_iload_n X dX5_sumAt_32 rfl 2 rfl ?_
          refine k_isub X dX5_sumAt_33 ?_
          refine k_as (y := nI (ko - x)) (pk_sub (by omega)) ?_
          refine k_icmp_le (tgt := 39) (xi := ((y : Nat) : Int)) (yi := (((ko - x) : Nat) : Int)) X (nI_toInt (by omega)) (nI_toInt (by omega)) dX5_sumAt_34 (by decide) (fun c_34 => ?_) (fun c_34 => ?_)
          · refine k_aload_n X dX5_sumAt_39 rfl 0 rfl ?_
            refine k_sipush (v := 2000) X dX5_sumAt_40 (by decide) ?_
            refine k_iload_n X dX5_sumAt_43 rfl 1 rfl ?_
            refine k_imul X dX5_sumAt_44 ?_
            refine k_as (y := 0) (by decide) ?_
            refine k_iload_n X dX5_sumAt_45 rfl 2 rfl ?_
            refine k_iadd X dX5_sumAt_46 ?_
            refine k_as (y := nI (0 + x)) (nI_add 0 x) ?_
            refine k_iload_n X dX5_sumAt_47 rfl 3 rfl ?_
            refine k_callV (wc := [(m0, .inr (5, [.ref yb, .ref yz, .ref ye, .int (nI dz), .int (nI sz), .int (nI wz), .int (nI bz), .int (nI uS), .int (nI uW), .ref ys, .ref yg, .int (nI mr), .int (nI ml), .int (nI mw), .int (nI ma), .ref yf, .ref yh, .ref yw, .ref yn, .ref yt, .ref yl, .int (nI tz)])), (yb, .inl (cB, 6000, .inl B))]) (wr := [(yz, .inl (cI, 3, .inl (zf ko kn kr)))]) (As := [.int (nI (0 + x)), .int (nI y)]) (n := 2) (st := []) (q0 := 0) X (m_sumOf l D cI cB m0 yb yz ye ys yg yf yh yw yn yt yl dz sz wz bz uS uW mr ml mw ma tz B f x (0 + x) y (by omega) (fun j hj => by rw [show 0 + x + j = 0 + (x + j) by omega]; exact hB (x + j) (by omega))) rfl rfl ml_X5_139 im_X5_sumOf se_X5_sumOf ini_X5 co_X5_sumOf (by decide +kernel) rfl ⟨Nat.le_of_ble_eq_true rfl, Nat.le_of_ble_eq_true rfl⟩ (⟨by (try dsimp only); omega, by (try dsimp only); omega⟩) (Nat.le_of_ble_eq_true rfl) [0, 1] [2] rfl rfl rfl (by decide) (by decide) (by decide) rfl dX5_sumAt_48 (fun v_48 u_48 hu_48 => ?_)
            obtain ⟨rfl, rfl⟩ := hu_48
            refine k_to (ws' := [(yz, .inl (cI, 3, .inl (zf ko kn kr))), (m0, .inr (5, [.ref yb, .ref yz, .ref ye, .int (nI dz), .int (nI sz), .int (nI wz), .int (nI bz), .int (nI uS), .int (nI uW), .ref ys, .ref yg, .int (nI mr), .int (nI ml), .int (nI mw), .int (nI ma), .ref yf, .ref yh, .ref yw, .ref yn, .ref yt, .ref yl, .int (nI tz)])), (yb, .inl (cB, 6000, .inl B))]) (st' := [.int (sSum f x y)]) rfl rfl ?_
            exact k_iret (u := [(m0, .inr (5, [.ref yb, .ref yz, .ref ye, .int (nI dz), .int (nI sz), .int (nI wz), .int (nI bz), .int (nI uS), .int (nI uW), .ref ys, .ref yg, .int (nI mr), .int (nI ml), .int (nI mw), .int (nI ma), .ref yf, .ref yh, .ref yw, .ref yn, .ref yt, .ref yl, .int (nI tz)])), (yb, .inl (cB, 6000, .inl B)), (yz, .inl (cI, 3, .inl (zf ko kn kr)))]) X hr [1, 2, 0] (by decide) rfl rfl (⟨rfl, rfl⟩) (by (try dsimp only); omega) (by (try dsimp only); omega) dX5_sumAt_51
          · exact absurd c_34 (by omega)
set_option maxHeartbeats 4000000 in
set_option maxRecDepth 100000 in
theorem m_sumAt_0f (l : Launch) (D : va_G) (cI cB : ClassId) (m0 : Nat) (yb : Nat) (yz : Nat) (ye : Nat) (ys : Nat) (yg : Nat) (yf : Nat) (yh : Nat) (yw : Nat) (yn : Nat) (yt : Nat) (yl : Nat) (dz : Nat) (sz : Nat) (wz : Nat) (bz : Nat) (uS : Nat) (uW : Nat) (mr : Nat) (ml : Nat) (mw : Nat) (ma : Nat) (tz : Nat) (ko : Nat) (kn : Nat) (kr : Nat) (x : Int32) (y : Int32) (hk : ko ≤ 2000) (hxy : ¬ rHolds x y ko) : kC l yX5_sumAt cX5_sumAt 4 (some .int) 1 20 (0) (0) D cI cB [.ref m0, .int 0, .int x, .int y] [(m0, .inr (5, [.ref yb, .ref yz, .ref ye, .int (nI dz), .int (nI sz), .int (nI wz), .int (nI bz), .int (nI uS), .int (nI uW), .ref ys, .ref yg, .int (nI mr), .int (nI ml), .int (nI mw), .int (nI ma), .ref yf, .ref yh, .ref yw, .ref yn, .ref yt, .ref yl, .int (nI tz)])), (yz, .inl (cI, 3, .inl (zf ko kn kr)))] (fun (vV : Option Value) (uU : va_W) => vV = some (.int 0) ∧ uU = [(m0, .inr (5, [.ref yb, .ref yz, .ref ye, .int (nI dz), .int (nI sz), .int (nI wz), .int (nI bz), .int (nI uS), .int (nI uW), .ref ys, .ref yg, .int (nI mr), .int (nI ml), .int (nI mw), .int (nI ma), .ref yf, .ref yh, .ref yw, .ref yn, .ref yt, .ref yl, .int (nI tz)])), (yz, .inl (cI, 3, .inl (zf ko kn kr)))]) := by
  refine k_entry (lv0 := [(0, .ref m0), (1, .int 0), (2, .int x), (3, .int y)]) (by decide) (Nat.le_of_ble_eq_true rfl) rfl ?_
  intro zp ze zs zm zb zt zc zA X hr hin
  refine k_iload_n X dX5_sumAt_0 rfl 1 rfl ?_
  refine k_callS (wc := []) (wr := [(m0, .inr (5, [.ref yb, .ref yz, .ref ye, .int (nI dz), .int (nI sz), .int (nI wz), .int (nI bz), .int (nI uS), .int (nI uW), .ref ys, .ref yg, .int (nI mr), .int (nI ml), .int (nI mw), .int (nI ma), .ref yf, .ref yh, .ref yw, .ref yn, .ref yt, .ref yl, .int (nI tz)])), (yz, .inl (cI, 3, .inl (zf ko kn kr)))]) (As := [.int 0]) (n := 1) (st := []) X (m_isFile_0 l D cI cB  ) ml_X5_121 sm_X5_isFile ini_X5 co_X5_isFile (by decide +kernel) rfl ⟨Nat.le_of_ble_eq_true rfl, Nat.le_of_ble_eq_true rfl⟩ (⟨by (try dsimp only); omega, by (try dsimp only); omega⟩) (Nat.le_of_ble_eq_true rfl) [] [0, 1] rfl rfl rfl (by decide) (by decide) (by decide) rfl dX5_sumAt_1 (fun v_1 u_1 hu_1 => ?_)
  obtain ⟨rfl, rfl⟩ := hu_1
  refine k_to (ws' := [(m0, .inr (5, [.ref yb, .ref yz, .ref ye, .int (nI dz), .int (nI sz), .int (nI wz), .int (nI bz), .int (nI uS), .int (nI uW), .ref ys, .ref yg, .int (nI mr), .int (nI ml), .int (nI mw), .int (nI ma), .ref yf, .ref yh, .ref yw, .ref yn, .ref yt, .ref yl, .int (nI tz)])), (yz, .inl (cI, 3, .inl (zf ko kn kr)))]) (st' := [.int 1]) rfl rfl ?_
  refine k_if_eq (tgt := 37) (xi := (1 : Int)) X (by decide) dX5_sumAt_4 (by decide) (fun c_4 => ?_) (fun c_4 => ?_)
  · exact absurd c_4 (by decide)
  · refine k_iload_n X dX5_sumAt_7 rfl 2 rfl ?_
    refine k_if_lt (tgt := 37) (xi := x.toInt) X (rfl) dX5_sumAt_8 (by decide) (fun c_8 => ?_) (fun c_8 => ?_)
    · refine k_iconst (v := 0) X dX5_sumAt_37 (by decide) ?_
      exact k_iret (u := [(m0, .inr (5, [.ref yb, .ref yz, .ref ye, .int (nI dz), .int (nI sz), .int (nI wz), .int (nI bz), .int (nI uS), .int (nI uW), .ref ys, .ref yg, .int (nI mr), .int (nI ml), .int (nI mw), .int (nI ma), .ref yf, .ref yh, .ref yw, .ref yn, .ref yt, .ref yl, .int (nI tz)])), (yz, .inl (cI, 3, .inl (zf ko kn kr)))]) X hr [0, 1] (by decide) rfl rfl (⟨rfl, rfl⟩) (by (try dsimp only); omega) (by (try dsimp only); omega) dX5_sumAt_38
    · refine k_iload_n X dX5_sumAt_11 rfl 3 rfl ?_
      refine k_if_lt (tgt := 37) (xi := y.toInt) X (rfl) dX5_sumAt_12 (by decide) (fun c_12 => ?_) (fun c_12 => ?_)
      · refine k_iconst (v := 0) X dX5_sumAt_37 (by decide) ?_
        exact k_iret (u := [(m0, .inr (5, [.ref yb, .ref yz, .ref ye, .int (nI dz), .int (nI sz), .int (nI wz), .int (nI bz), .int (nI uS), .int (nI uW), .ref ys, .ref yg, .int (nI mr), .int (nI ml), .int (nI mw), .int (nI ma), .ref yf, .ref yh, .ref yw, .ref yn, .ref yt, .ref yl, .int (nI tz)])), (yz, .inl (cI, 3, .inl (zf ko kn kr)))]) X hr [0, 1] (by decide) rfl rfl (⟨rfl, rfl⟩) (by (try dsimp only); omega) (by (try dsimp only); omega) dX5_sumAt_38
      · refine k_iload_n X dX5_sumAt_15 rfl 2 rfl ?_
        refine k_aload_n X dX5_sumAt_16 rfl 0 rfl ?_
        refine k_get (v := .ref yz) X 0 5 1 rfl rfl (by decide) fl_X5_13 in_X5 rfl rfl dX5_sumAt_17 ?_
        refine k_iload_n X dX5_sumAt_20 rfl 1 rfl ?_
        refine k_iald (v := (zf ko kn kr) 0) X 1 rfl (vp_in_nI (n := 0) (by omega) (by omega)) (by rw [show ((0 : Int32).toNatClampNeg) = 0 from rfl]) dX5_sumAt_21 ?_
        refine k_as (y := nI ko) (rfl) ?_
        refine k_icmp_gt (tgt := 37) (xi := x.toInt) (yi := ((ko : Nat) : Int)) X (rfl) (nI_toInt (by omega)) dX5_sumAt_22 (by decide) (fun c_22 => ?_) (fun c_22 => ?_)
        · refine k_iconst (v := 0) X dX5_sumAt_37 (by decide) ?_
          exact k_iret (u := [(m0, .inr (5, [.ref yb, .ref yz, .ref ye, .int (nI dz), .int (nI sz), .int (nI wz), .int (nI bz), .int (nI uS), .int (nI uW), .ref ys, .ref yg, .int (nI mr), .int (nI ml), .int (nI mw), .int (nI ma), .ref yf, .ref yh, .ref yw, .ref yn, .ref yt, .ref yl, .int (nI tz)])), (yz, .inl (cI, 3, .inl (zf ko kn kr)))]) X hr [0, 1] (by decide) rfl rfl (⟨rfl, rfl⟩) (by (try dsimp only); omega) (by (try dsimp only); omega) dX5_sumAt_38
        · refine k_iload_n X dX5_sumAt_25 rfl 3 rfl ?_
          refine k_aload_n X dX5_sumAt_26 rfl 0 rfl ?_
          refine k_get (v := .ref yz) X 0 5 1 rfl rfl (by decide) fl_X5_13 in_X5 rfl rfl dX5_sumAt_27 ?_
          refine k_iload_n X dX5_sumAt_30 rfl 1 rfl ?_
          refine k_iald (v := (zf ko kn kr) 0) X 1 rfl (vp_in_nI (n := 0) (by omega) (by omega)) (by rw [show ((0 : Int32).toNatClampNeg) = 0 from rfl]) dX5_sumAt_31 ?_
          refine k_as (y := nI ko) (rfl) ?_
          refine k_iload_n X dX5_sumAt_32 rfl 2 rfl ?_
          refine k_isub X dX5_sumAt_33 ?_
          refine k_icmp_le (tgt := 39) (xi := y.toInt) (yi := ((ko : Nat) : Int) - x.toInt) X (rfl) (by rw [i_sub (by rw [nI_toInt (by omega)]; omega) (by rw [nI_toInt (by omega)]; omega), nI_toInt (by omega)]) dX5_sumAt_34 (by decide) (fun c_34 => ?_) (fun c_34 => ?_)
          · exact absurd c_34 (by omega)
          · refine k_iconst (v := 0) X dX5_sumAt_37 (by decide) ?_
            exact k_iret (u := [(m0, .inr (5, [.ref yb, .ref yz, .ref ye, .int (nI dz), .int (nI sz), .int (nI wz), .int (nI bz), .int (nI uS), .int (nI uW), .ref ys, .ref yg, .int (nI mr), .int (nI ml), .int (nI mw), .int (nI ma), .ref yf, .ref yh, .ref yw, .ref yn, .ref yt, .ref yl, .int (nI tz)])), (yz, .inl (cI, 3, .inl (zf ko kn kr)))]) X hr [0, 1] (by decide) rfl rfl (⟨rfl, rfl⟩) (by (try dsimp only); omega) (by (try dsimp only); omega) dX5_sumAt_38
set_option maxHeartbeats 4000000 in
set_option maxRecDepth 100000 in
theorem m_sumAt_1 (l : Launch) (D : va_G) (cI cB : ClassId) (m0 : Nat) (yb : Nat) (yz : Nat) (ye : Nat) (ys : Nat) (yg : Nat) (yf : Nat) (yh : Nat) (yw : Nat) (yn : Nat) (yt : Nat) (yl : Nat) (dz : Nat) (sz : Nat) (wz : Nat) (bz : Nat) (uS : Nat) (uW : Nat) (mr : Nat) (ml : Nat) (mw : Nat) (ma : Nat) (tz : Nat) (B : Nat → Int32) (f : Nat → Int32) (ko : Nat) (kn : Nat) (kr : Nat) (x : Nat) (y : Nat) (hk : kn ≤ 2000) (hxy : x + y ≤ kn) (hB : ∀ j, j < kn → (B (2000 + j) &&& 255) = f j) : kC l yX5_sumAt cX5_sumAt 4 (some .int) 1 26 (0) (0) D cI cB [.ref m0, .int 1, .int (nI x), .int (nI y)] [(m0, .inr (5, [.ref yb, .ref yz, .ref ye, .int (nI dz), .int (nI sz), .int (nI wz), .int (nI bz), .int (nI uS), .int (nI uW), .ref ys, .ref yg, .int (nI mr), .int (nI ml), .int (nI mw), .int (nI ma), .ref yf, .ref yh, .ref yw, .ref yn, .ref yt, .ref yl, .int (nI tz)])), (yb, .inl (cB, 6000, .inl B)), (yz, .inl (cI, 3, .inl (zf ko kn kr)))] (fun (vV : Option Value) (uU : va_W) => vV = some (.int (sSum f x y)) ∧ uU = [(m0, .inr (5, [.ref yb, .ref yz, .ref ye, .int (nI dz), .int (nI sz), .int (nI wz), .int (nI bz), .int (nI uS), .int (nI uW), .ref ys, .ref yg, .int (nI mr), .int (nI ml), .int (nI mw), .int (nI ma), .ref yf, .ref yh, .ref yw, .ref yn, .ref yt, .ref yl, .int (nI tz)])), (yb, .inl (cB, 6000, .inl B)), (yz, .inl (cI, 3, .inl (zf ko kn kr)))]) := by
  refine k_entry (lv0 := [(0, .ref m0), (1, .int 1), (2, .int (nI x)), (3, .int (nI y))]) (by decide) (Nat.le_of_ble_eq_true rfl) rfl ?_
  intro zp ze zs zm zb zt zc zA X hr hin
  refine k_iload_n X dX5_sumAt_0 rfl 1 rfl ?_
  refine k_callS (wc := []) (wr := [(m0, .inr (5, [.ref yb, .ref yz, .ref ye, .int (nI dz), .int (nI sz), .int (nI wz), .int (nI bz), .int (nI uS), .int (nI uW), .ref ys, .ref yg, .int (nI mr), .int (nI ml), .int (nI mw), .int (nI ma), .ref yf, .ref yh, .ref yw, .ref yn, .ref yt, .ref yl, .int (nI tz)])), (yb, .inl (cB, 6000, .inl B)), (yz, .inl (cI, 3, .inl (zf ko kn kr)))]) (As := [.int 1]) (n := 1) (st := []) X (m_isFile_1 l D cI cB  ) ml_X5_121 sm_X5_isFile ini_X5 co_X5_isFile (by decide +kernel) rfl ⟨Nat.le_of_ble_eq_true rfl, Nat.le_of_ble_eq_true rfl⟩ (⟨by (try dsimp only); omega, by (try dsimp only); omega⟩) (Nat.le_of_ble_eq_true rfl) [] [0, 1, 2] rfl rfl rfl (by decide) (by decide) (by decide) rfl dX5_sumAt_1 (fun v_1 u_1 hu_1 => ?_)
  obtain ⟨rfl, rfl⟩ := hu_1
  refine k_to (ws' := [(m0, .inr (5, [.ref yb, .ref yz, .ref ye, .int (nI dz), .int (nI sz), .int (nI wz), .int (nI bz), .int (nI uS), .int (nI uW), .ref ys, .ref yg, .int (nI mr), .int (nI ml), .int (nI mw), .int (nI ma), .ref yf, .ref yh, .ref yw, .ref yn, .ref yt, .ref yl, .int (nI tz)])), (yb, .inl (cB, 6000, .inl B)), (yz, .inl (cI, 3, .inl (zf ko kn kr)))]) (st' := [.int 1]) rfl rfl ?_
  refine k_if_eq (tgt := 37) (xi := (1 : Int)) X (by decide) dX5_sumAt_4 (by decide) (fun c_4 => ?_) (fun c_4 => ?_)
  · exact absurd c_4 (by decide)
  · refine k_iload_n X dX5_sumAt_7 rfl 2 rfl ?_
    refine k_if_lt (tgt := 37) (xi := ((x : Nat) : Int)) X (nI_toInt (by omega)) dX5_sumAt_8 (by decide) (fun c_8 => ?_) (fun c_8 => ?_)
    · exact absurd c_8 (by omega)
    · refine k_iload_n X dX5_sumAt_11 rfl 3 rfl ?_
      refine k_if_lt (tgt := 37) (xi := ((y : Nat) : Int)) X (nI_toInt (by omega)) dX5_sumAt_12 (by decide) (fun c_12 => ?_) (fun c_12 => ?_)
      · exact absurd c_12 (by omega)
      · refine k_iload_n X dX5_sumAt_15 rfl 2 rfl ?_
        refine k_aload_n X dX5_sumAt_16 rfl 0 rfl ?_
        refine k_get (v := .ref yz) X 0 5 1 rfl rfl (by decide) fl_X5_13 in_X5 rfl rfl dX5_sumAt_17 ?_
        refine k_iload_n X dX5_sumAt_20 rfl 1 rfl ?_
        refine k_iald (v := (zf ko kn kr) 1) X 2 rfl (vp_in_nI (n := 1) (by omega) (by omega)) (by rw [show ((1 : Int32).toNatClampNeg) = 1 from rfl]) dX5_sumAt_21 ?_
        refine k_as (y := nI kn) (rfl) ?_
        refine k_icmp_gt (tgt := 37) (xi := ((x : Nat) : Int)) (yi := ((kn : Nat) : Int)) X (nI_toInt (by omega)) (nI_toInt (by omega)) dX5_sumAt_22 (by decide) (fun c_22 => ?_) (fun c_22 => ?_)
        · exact absurd c_22 (by omega)
        · refine k_iload_n X dX5_sumAt_25 rfl 3 rfl ?_
          refine k_aload_n X dX5_sumAt_26 rfl 0 rfl ?_
          refine k_get (v := .ref yz) X 0 5 1 rfl rfl (by decide) fl_X5_13 in_X5 rfl rfl dX5_sumAt_27 ?_
          refine k_iload_n X dX5_sumAt_30 rfl 1 rfl ?_
          refine k_iald (v := (zf ko kn kr) 1) X 2 rfl (vp_in_nI (n := 1) (by omega) (by omega)) (by rw [show ((1 : Int32).toNatClampNeg) = 1 from rfl]) dX5_sumAt_31 ?_
          refine k_as (y := nI kn) (rfl) ?_
          refine k_iload_n X dX5_sumAt_32 rfl 2 rfl ?_
          refine k_isub X dX5_sumAt_33 ?_
          refine k_as (y := nI (kn - x)) (pk_sub (by omega)) ?_
          refine k_icmp_le (tgt := 39) (xi := ((y : Nat) : Int)) (yi := (((kn - x) : Nat) : Int)) X (nI_toInt (by omega)) (nI_toInt (by omega)) dX5_sumAt_34 (by decide) (fun c_34 => ?_) (fun c_34 => ?_)
          · refine k_aload_n X dX5_sumAt_39 rfl 0 rfl ?_
            refine k_sipush (v := 2000) X dX5_sumAt_40 (by decide) ?_
            refine k_iload_n X dX5_sumAt_43 rfl 1 rfl ?_
            refine k_imul X dX5_sumAt_44 ?_
            refine k_as (y := 2000) (by decide) ?_
            refine k_iload_n X dX5_sumAt_45 rfl 2 rfl ?_
            refine k_iadd X dX5_sumAt_46 ?_
            refine k_as (y := nI (2000 + x)) (nI_add 2000 x) ?_
            refine k_iload_n X dX5_sumAt_47 rfl 3 rfl ?_
            refine k_callV (wc := [(m0, .inr (5, [.ref yb, .ref yz, .ref ye, .int (nI dz), .int (nI sz), .int (nI wz), .int (nI bz), .int (nI uS), .int (nI uW), .ref ys, .ref yg, .int (nI mr), .int (nI ml), .int (nI mw), .int (nI ma), .ref yf, .ref yh, .ref yw, .ref yn, .ref yt, .ref yl, .int (nI tz)])), (yb, .inl (cB, 6000, .inl B))]) (wr := [(yz, .inl (cI, 3, .inl (zf ko kn kr)))]) (As := [.int (nI (2000 + x)), .int (nI y)]) (n := 2) (st := []) (q0 := 0) X (m_sumOf l D cI cB m0 yb yz ye ys yg yf yh yw yn yt yl dz sz wz bz uS uW mr ml mw ma tz B f x (2000 + x) y (by omega) (fun j hj => by rw [show 2000 + x + j = 2000 + (x + j) by omega]; exact hB (x + j) (by omega))) rfl rfl ml_X5_139 im_X5_sumOf se_X5_sumOf ini_X5 co_X5_sumOf (by decide +kernel) rfl ⟨Nat.le_of_ble_eq_true rfl, Nat.le_of_ble_eq_true rfl⟩ (⟨by (try dsimp only); omega, by (try dsimp only); omega⟩) (Nat.le_of_ble_eq_true rfl) [0, 1] [2] rfl rfl rfl (by decide) (by decide) (by decide) rfl dX5_sumAt_48 (fun v_48 u_48 hu_48 => ?_)
            obtain ⟨rfl, rfl⟩ := hu_48
            refine k_to (ws' := [(yz, .inl (cI, 3, .inl (zf ko kn kr))), (m0, .inr (5, [.ref yb, .ref yz, .ref ye, .int (nI dz), .int (nI sz), .int (nI wz), .int (nI bz), .int (nI uS), .int (nI uW), .ref ys, .ref yg, .int (nI mr), .int (nI ml), .int (nI mw), .int (nI ma), .ref yf, .ref yh, .ref yw, .ref yn, .ref yt, .ref yl, .int (nI tz)])), (yb, .inl (cB, 6000, .inl B))]) (st' := [.int (sSum f x y)]) rfl rfl ?_
            exact k_iret (u := [(m0, .inr (5, [.ref yb, .ref yz, .ref ye, .int (nI dz), .int (nI sz), .int (nI wz), .int (nI bz), .int (nI uS), .int (nI uW), .ref ys, .ref yg, .int (nI mr), .int (nI ml), .int (nI mw), .int (nI ma), .ref yf, .ref yh, .ref yw, .ref yn, .ref yt, .ref yl, .int (nI tz)])), (yb, .inl (cB, 6000, .inl B)), (yz, .inl (cI, 3, .inl (zf ko kn kr)))]) X hr [1, 2, 0] (by decide) rfl rfl (⟨rfl, rfl⟩) (by (try dsimp only); omega) (by (try dsimp only); omega) dX5_sumAt_51
          · exact absurd c_34 (by omega)
set_option maxHeartbeats 4000000 in
set_option maxRecDepth 100000 in
theorem m_sumAt_1f (l : Launch) (D : va_G) (cI cB : ClassId) (m0 : Nat) (yb : Nat) (yz : Nat) (ye : Nat) (ys : Nat) (yg : Nat) (yf : Nat) (yh : Nat) (yw : Nat) (yn : Nat) (yt : Nat) (yl : Nat) (dz : Nat) (sz : Nat) (wz : Nat) (bz : Nat) (uS : Nat) (uW : Nat) (mr : Nat) (ml : Nat) (mw : Nat) (ma : Nat) (tz : Nat) (ko : Nat) (kn : Nat) (kr : Nat) (x : Int32) (y : Int32) (hk : kn ≤ 2000) (hxy : ¬ rHolds x y kn) : kC l yX5_sumAt cX5_sumAt 4 (some .int) 1 20 (0) (0) D cI cB [.ref m0, .int 1, .int x, .int y] [(m0, .inr (5, [.ref yb, .ref yz, .ref ye, .int (nI dz), .int (nI sz), .int (nI wz), .int (nI bz), .int (nI uS), .int (nI uW), .ref ys, .ref yg, .int (nI mr), .int (nI ml), .int (nI mw), .int (nI ma), .ref yf, .ref yh, .ref yw, .ref yn, .ref yt, .ref yl, .int (nI tz)])), (yz, .inl (cI, 3, .inl (zf ko kn kr)))] (fun (vV : Option Value) (uU : va_W) => vV = some (.int 0) ∧ uU = [(m0, .inr (5, [.ref yb, .ref yz, .ref ye, .int (nI dz), .int (nI sz), .int (nI wz), .int (nI bz), .int (nI uS), .int (nI uW), .ref ys, .ref yg, .int (nI mr), .int (nI ml), .int (nI mw), .int (nI ma), .ref yf, .ref yh, .ref yw, .ref yn, .ref yt, .ref yl, .int (nI tz)])), (yz, .inl (cI, 3, .inl (zf ko kn kr)))]) := by
  refine k_entry (lv0 := [(0, .ref m0), (1, .int 1), (2, .int x), (3, .int y)]) (by decide) (Nat.le_of_ble_eq_true rfl) rfl ?_
  intro zp ze zs zm zb zt zc zA X hr hin
  refine k_iload_n X dX5_sumAt_0 rfl 1 rfl ?_
  refine k_callS (wc := []) (wr := [(m0, .inr (5, [.ref yb, .ref yz, .ref ye, .int (nI dz), .int (nI sz), .int (nI wz), .int (nI bz), .int (nI uS), .int (nI uW), .ref ys, .ref yg, .int (nI mr), .int (nI ml), .int (nI mw), .int (nI ma), .ref yf, .ref yh, .ref yw, .ref yn, .ref yt, .ref yl, .int (nI tz)])), (yz, .inl (cI, 3, .inl (zf ko kn kr)))]) (As := [.int 1]) (n := 1) (st := []) X (m_isFile_1 l D cI cB  ) ml_X5_121 sm_X5_isFile ini_X5 co_X5_isFile (by decide +kernel) rfl ⟨Nat.le_of_ble_eq_true rfl, Nat.le_of_ble_eq_true rfl⟩ (⟨by (try dsimp only); omega, by (try dsimp only); omega⟩) (Nat.le_of_ble_eq_true rfl) [] [0, 1] rfl rfl rfl (by decide) (by decide) (by decide) rfl dX5_sumAt_1 (fun v_1 u_1 hu_1 => ?_)
  obtain ⟨rfl, rfl⟩ := hu_1
  refine k_to (ws' := [(m0, .inr (5, [.ref yb, .ref yz, .ref ye, .int (nI dz), .int (nI sz), .int (nI wz), .int (nI bz), .int (nI uS), .int (nI uW), .ref ys, .ref yg, .int (nI mr), .int (nI ml), .int (nI mw), .int (nI ma), .ref yf, .ref yh, .ref yw, .ref yn, .ref yt, .ref yl, .int (nI tz)])), (yz, .inl (cI, 3, .inl (zf ko kn kr)))]) (st' := [.int 1]) rfl rfl ?_
  refine k_if_eq (tgt := 37) (xi := (1 : Int)) X (by decide) dX5_sumAt_4 (by decide) (fun c_4 => ?_) (fun c_4 => ?_)
  · exact absurd c_4 (by decide)
  · refine k_iload_n X dX5_sumAt_7 rfl 2 rfl ?_
    refine k_if_lt (tgt := 37) (xi := x.toInt) X (rfl) dX5_sumAt_8 (by decide) (fun c_8 => ?_) (fun c_8 => ?_)
    · refine k_iconst (v := 0) X dX5_sumAt_37 (by decide) ?_
      exact k_iret (u := [(m0, .inr (5, [.ref yb, .ref yz, .ref ye, .int (nI dz), .int (nI sz), .int (nI wz), .int (nI bz), .int (nI uS), .int (nI uW), .ref ys, .ref yg, .int (nI mr), .int (nI ml), .int (nI mw), .int (nI ma), .ref yf, .ref yh, .ref yw, .ref yn, .ref yt, .ref yl, .int (nI tz)])), (yz, .inl (cI, 3, .inl (zf ko kn kr)))]) X hr [0, 1] (by decide) rfl rfl (⟨rfl, rfl⟩) (by (try dsimp only); omega) (by (try dsimp only); omega) dX5_sumAt_38
    · refine k_iload_n X dX5_sumAt_11 rfl 3 rfl ?_
      refine k_if_lt (tgt := 37) (xi := y.toInt) X (rfl) dX5_sumAt_12 (by decide) (fun c_12 => ?_) (fun c_12 => ?_)
      · refine k_iconst (v := 0) X dX5_sumAt_37 (by decide) ?_
        exact k_iret (u := [(m0, .inr (5, [.ref yb, .ref yz, .ref ye, .int (nI dz), .int (nI sz), .int (nI wz), .int (nI bz), .int (nI uS), .int (nI uW), .ref ys, .ref yg, .int (nI mr), .int (nI ml), .int (nI mw), .int (nI ma), .ref yf, .ref yh, .ref yw, .ref yn, .ref yt, .ref yl, .int (nI tz)])), (yz, .inl (cI, 3, .inl (zf ko kn kr)))]) X hr [0, 1] (by decide) rfl rfl (⟨rfl, rfl⟩) (by (try dsimp only); omega) (by (try dsimp only); omega) dX5_sumAt_38
      · refine k_iload_n X dX5_sumAt_15 rfl 2 rfl ?_
        refine k_aload_n X dX5_sumAt_16 rfl 0 rfl ?_
        refine k_get (v := .ref yz) X 0 5 1 rfl rfl (by decide) fl_X5_13 in_X5 rfl rfl dX5_sumAt_17 ?_
        refine k_iload_n X dX5_sumAt_20 rfl 1 rfl ?_
        refine k_iald (v := (zf ko kn kr) 1) X 1 rfl (vp_in_nI (n := 1) (by omega) (by omega)) (by rw [show ((1 : Int32).toNatClampNeg) = 1 from rfl]) dX5_sumAt_21 ?_
        refine k_as (y := nI kn) (rfl) ?_
        refine k_icmp_gt (tgt := 37) (xi := x.toInt) (yi := ((kn : Nat) : Int)) X (rfl) (nI_toInt (by omega)) dX5_sumAt_22 (by decide) (fun c_22 => ?_) (fun c_22 => ?_)
        · refine k_iconst (v := 0) X dX5_sumAt_37 (by decide) ?_
          exact k_iret (u := [(m0, .inr (5, [.ref yb, .ref yz, .ref ye, .int (nI dz), .int (nI sz), .int (nI wz), .int (nI bz), .int (nI uS), .int (nI uW), .ref ys, .ref yg, .int (nI mr), .int (nI ml), .int (nI mw), .int (nI ma), .ref yf, .ref yh, .ref yw, .ref yn, .ref yt, .ref yl, .int (nI tz)])), (yz, .inl (cI, 3, .inl (zf ko kn kr)))]) X hr [0, 1] (by decide) rfl rfl (⟨rfl, rfl⟩) (by (try dsimp only); omega) (by (try dsimp only); omega) dX5_sumAt_38
        · refine k_iload_n X dX5_sumAt_25 rfl 3 rfl ?_
          refine k_aload_n X dX5_sumAt_26 rfl 0 rfl ?_
          refine k_get (v := .ref yz) X 0 5 1 rfl rfl (by decide) fl_X5_13 in_X5 rfl rfl dX5_sumAt_27 ?_
          refine k_iload_n X dX5_sumAt_30 rfl 1 rfl ?_
          refine k_iald (v := (zf ko kn kr) 1) X 1 rfl (vp_in_nI (n := 1) (by omega) (by omega)) (by rw [show ((1 : Int32).toNatClampNeg) = 1 from rfl]) dX5_sumAt_31 ?_
          refine k_as (y := nI kn) (rfl) ?_
          refine k_iload_n X dX5_sumAt_32 rfl 2 rfl ?_
          refine k_isub X dX5_sumAt_33 ?_
          refine k_icmp_le (tgt := 39) (xi := y.toInt) (yi := ((kn : Nat) : Int) - x.toInt) X (rfl) (by rw [i_sub (by rw [nI_toInt (by omega)]; omega) (by rw [nI_toInt (by omega)]; omega), nI_toInt (by omega)]) dX5_sumAt_34 (by decide) (fun c_34 => ?_) (fun c_34 => ?_)
          · exact absurd c_34 (by omega)
          · refine k_iconst (v := 0) X dX5_sumAt_37 (by decide) ?_
            exact k_iret (u := [(m0, .inr (5, [.ref yb, .ref yz, .ref ye, .int (nI dz), .int (nI sz), .int (nI wz), .int (nI bz), .int (nI uS), .int (nI uW), .ref ys, .ref yg, .int (nI mr), .int (nI ml), .int (nI mw), .int (nI ma), .ref yf, .ref yh, .ref yw, .ref yn, .ref yt, .ref yl, .int (nI tz)])), (yz, .inl (cI, 3, .inl (zf ko kn kr)))]) X hr [0, 1] (by decide) rfl rfl (⟨rfl, rfl⟩) (by (try dsimp only); omega) (by (try dsimp only); omega) dX5_sumAt_38
set_option maxHeartbeats 4000000 in
set_option maxRecDepth 100000 in
theorem m_sumAt_f (l : Launch) (D : va_G) (cI cB : ClassId) (m0 : Nat) (yb : Nat) (yz : Nat) (ye : Nat) (ys : Nat) (yg : Nat) (yf : Nat) (yh : Nat) (yw : Nat) (yn : Nat) (yt : Nat) (yl : Nat) (dz : Nat) (sz : Nat) (wz : Nat) (bz : Nat) (uS : Nat) (uW : Nat) (mr : Nat) (ml : Nat) (mw : Nat) (ma : Nat) (tz : Nat) (wh : Int32) (x : Int32) (y : Int32) (hwh : ¬ wh.toInt = 0 ∧ ¬ wh.toInt = 1) : kC l yX5_sumAt cX5_sumAt 4 (some .int) 1 20 (0) (0) D cI cB [.ref m0, .int wh, .int x, .int y] [(m0, .inr (5, [.ref yb, .ref yz, .ref ye, .int (nI dz), .int (nI sz), .int (nI wz), .int (nI bz), .int (nI uS), .int (nI uW), .ref ys, .ref yg, .int (nI mr), .int (nI ml), .int (nI mw), .int (nI ma), .ref yf, .ref yh, .ref yw, .ref yn, .ref yt, .ref yl, .int (nI tz)]))] (fun (vV : Option Value) (uU : va_W) => vV = some (.int 0) ∧ uU = [(m0, .inr (5, [.ref yb, .ref yz, .ref ye, .int (nI dz), .int (nI sz), .int (nI wz), .int (nI bz), .int (nI uS), .int (nI uW), .ref ys, .ref yg, .int (nI mr), .int (nI ml), .int (nI mw), .int (nI ma), .ref yf, .ref yh, .ref yw, .ref yn, .ref yt, .ref yl, .int (nI tz)]))]) := by
  refine k_entry (lv0 := [(0, .ref m0), (1, .int wh), (2, .int x), (3, .int y)]) (by decide) (Nat.le_of_ble_eq_true rfl) rfl ?_
  intro zp ze zs zm zb zt zc zA X hr hin
  refine k_iload_n X dX5_sumAt_0 rfl 1 rfl ?_
  refine k_callS (wc := []) (wr := [(m0, .inr (5, [.ref yb, .ref yz, .ref ye, .int (nI dz), .int (nI sz), .int (nI wz), .int (nI bz), .int (nI uS), .int (nI uW), .ref ys, .ref yg, .int (nI mr), .int (nI ml), .int (nI mw), .int (nI ma), .ref yf, .ref yh, .ref yw, .ref yn, .ref yt, .ref yl, .int (nI tz)]))]) (As := [.int wh]) (n := 1) (st := []) X (m_isFile_f l D cI cB wh (hwh)) ml_X5_121 sm_X5_isFile ini_X5 co_X5_isFile (by decide +kernel) rfl ⟨Nat.le_of_ble_eq_true rfl, Nat.le_of_ble_eq_true rfl⟩ (⟨by (try dsimp only); omega, by (try dsimp only); omega⟩) (Nat.le_of_ble_eq_true rfl) [] [0] rfl rfl rfl (by decide) (by decide) (by decide) rfl dX5_sumAt_1 (fun v_1 u_1 hu_1 => ?_)
  obtain ⟨rfl, rfl⟩ := hu_1
  refine k_to (ws' := [(m0, .inr (5, [.ref yb, .ref yz, .ref ye, .int (nI dz), .int (nI sz), .int (nI wz), .int (nI bz), .int (nI uS), .int (nI uW), .ref ys, .ref yg, .int (nI mr), .int (nI ml), .int (nI mw), .int (nI ma), .ref yf, .ref yh, .ref yw, .ref yn, .ref yt, .ref yl, .int (nI tz)]))]) (st' := [.int 0]) rfl rfl ?_
  refine k_if_eq (tgt := 37) (xi := (0 : Int)) X (by decide) dX5_sumAt_4 (by decide) (fun c_4 => ?_) (fun c_4 => ?_)
  · refine k_iconst (v := 0) X dX5_sumAt_37 (by decide) ?_
    exact k_iret (u := [(m0, .inr (5, [.ref yb, .ref yz, .ref ye, .int (nI dz), .int (nI sz), .int (nI wz), .int (nI bz), .int (nI uS), .int (nI uW), .ref ys, .ref yg, .int (nI mr), .int (nI ml), .int (nI mw), .int (nI ma), .ref yf, .ref yh, .ref yw, .ref yn, .ref yt, .ref yl, .int (nI tz)]))]) X hr [0] (by decide) rfl rfl (⟨rfl, rfl⟩) (by (try dsimp only); omega) (by (try dsimp only); omega) dX5_sumAt_38
  · exact absurd c_4 (by decide)
set_option maxHeartbeats 4000000 in
set_option maxRecDepth 100000 in
theorem m_mix (l : Launch) (D : va_G) (cI cB : ClassId) (m0 : Nat) (yb : Nat) (yz : Nat) (ye : Nat) (ys : Nat) (yg : Nat) (yf : Nat) (yh : Nat) (yw : Nat) (yn : Nat) (yt : Nat) (yl : Nat) (dz : Nat) (sz : Nat) (wz : Nat) (bz : Nat) (uS : Nat) (uW : Nat) (mr : Nat) (ml : Nat) (mw : Nat) (ma : Nat) (tz : Nat) (F : Nat → Int32) (V : Nat → Int32) (H : Nat → Int32) (KN : Nat → Int32) (KT : Nat → Int32) (a0 : Nat) (ha0 : a0 + 64 ≤ 2112) (hKN : ∀ j, j < 64 → KN j = kSin j) (hKT : ∀ j, j < 16 → KT j = kTrn j) : kC l yX5_mix cX5_mix 12 none 0 0 (0) (0) D cI cB [.ref m0, .int (nI a0)] [(m0, .inr (5, [.ref yb, .ref yz, .ref ye, .int (nI dz), .int (nI sz), .int (nI wz), .int (nI bz), .int (nI uS), .int (nI uW), .ref ys, .ref yg, .int (nI mr), .int (nI ml), .int (nI mw), .int (nI ma), .ref yf, .ref yh, .ref yw, .ref yn, .ref yt, .ref yl, .int (nI tz)])), (yf, .inl (cB, 2112, .inl F)), (yw, .inl (cI, 16, .inl V)), (yh, .inl (cI, 4, .inl H)), (yn, .inl (cI, 64, .inl KN)), (yt, .inl (cI, 16, .inl KT))] (fun (vV : Option Value) (uU : va_W) => ∃ (V9 : Nat → Int32), vV = none ∧ uU = [(m0, .inr (5, [.ref yb, .ref yz, .ref ye, .int (nI dz), .int (nI sz), .int (nI wz), .int (nI bz), .int (nI uS), .int (nI uW), .ref ys, .ref yg, .int (nI mr), .int (nI ml), .int (nI mw), .int (nI ma), .ref yf, .ref yh, .ref yw, .ref yn, .ref yt, .ref yl, .int (nI tz)])), (yf, .inl (cB, 2112, .inl F)), (yw, .inl (cI, 16, .inl V9)), (yh, .inl (cI, 4, .inl (mMix V9 H))), (yn, .inl (cI, 64, .inl KN)), (yt, .inl (cI, 16, .inl KT))] ∧ (∀ j, j < 16 → V9 j = wd4 F a0 j)) := by
  refine k_entry (lv0 := [(0, .ref m0), (1, .int (nI a0))]) (by decide) (Nat.le_of_ble_eq_true rfl) rfl ?_
  intro zp ze zs zm zb zt zc zA X hr hin
  refine k_iconst (v := 0) X dX5_mix_0 (by decide) ?_
  refine k_istore_n (lv' := [(2, .int 0), (0, .ref m0), (1, .int (nI a0))]) X dX5_mix_1 rfl (by decide) rfl ?_
  refine k_lv (lv' := [(0, .ref m0), (1, .int (nI a0)), (2, .int (nI 0))]) [1, 2, 0] rfl ?_
  refine k_sub (ws' := [(m0, .inr (5, [.ref yb, .ref yz, .ref ye, .int (nI dz), .int (nI sz), .int (nI wz), .int (nI bz), .int (nI uS), .int (nI uW), .ref ys, .ref yg, .int (nI mr), .int (nI ml), .int (nI mw), .int (nI ma), .ref yf, .ref yh, .ref yw, .ref yn, .ref yt, .ref yl, .int (nI tz)])), (yf, .inl (cB, 2112, .inl F)), (yw, .inl (cI, 16, .inl V)), (yh, .inl (cI, 4, .inl H)), (yn, .inl (cI, 64, .inl KN)), (yt, .inl (cI, 16, .inl KT))]) [0, 1, 2, 3, 4, 5] (by decide) rfl rfl ?_
  refine k_wide (k := 0) (n := 0) (by (try dsimp only); omega) (by (try dsimp only); omega) ?_
  refine k_loop2 (pc1 := 2) (cl := fun (jj : Nat) (V1 : Nat → Int32) => 0) (sl := fun (jj : Nat) (V1 : Nat → Int32) => 0) (wsf := fun (jj : Nat) (V1 : Nat → Int32) => [(m0, .inr (5, [.ref yb, .ref yz, .ref ye, .int (nI dz), .int (nI sz), .int (nI wz), .int (nI bz), .int (nI uS), .int (nI uW), .ref ys, .ref yg, .int (nI mr), .int (nI ml), .int (nI mw), .int (nI ma), .ref yf, .ref yh, .ref yw, .ref yn, .ref yt, .ref yl, .int (nI tz)])), (yf, .inl (cB, 2112, .inl F)), (yw, .inl (cI, 16, .inl V1)), (yh, .inl (cI, 4, .inl H)), (yn, .inl (cI, 64, .inl KN)), (yt, .inl (cI, 16, .inl KT))]) (lvf := fun (jj : Nat) (V1 : Nat → Int32) => [(0, .ref m0), (1, .int (nI a0)), (2, .int (nI jj))]) (stf := fun (jj : Nat) (V1 : Nat → Int32) => []) (I := fun (jj : Nat) (V1 : Nat → Int32) => jj ≤ 16 ∧ ∀ j, j < jj → V1 j = wd4 F a0 j) (mu := fun (jj : Nat) (V1 : Nat → Int32) => 16 - jj) ?_ 0 V (⟨Nat.zero_le _, fun j h => absurd h (Nat.not_lt_zero j)⟩)
  intro jj V1 hI ih
  try dsimp only at hI ih
  try dsimp only
  have hi := hI.1
  refine k_iload_n X dX5_mix_2 rfl 2 rfl ?_
  refine k_bipush (v := 16) X dX5_mix_3 (by decide) ?_
  refine k_icmp_ge (tgt := 65) (xi := ((jj : Nat) : Int)) (yi := (16 : Int)) X (nI_toInt (by omega)) (by decide) dX5_mix_5 (by decide) (fun c_5 => ?_) (fun c_5 => ?_)
  · refine k_aload_n X dX5_mix_65 rfl 0 rfl ?_
    refine k_get (v := .ref yh) X 0 5 16 rfl rfl (by decide) fl_X5_42 in_X5 rfl rfl dX5_mix_66 ?_
    refine k_iconst (v := 0) X dX5_mix_69 (by decide) ?_
    refine k_iald (v := H 0) X 3 rfl (vp_in_nI (n := 0) (by omega) (by omega)) (by rw [show ((0 : Int32).toNatClampNeg) = 0 from rfl]) dX5_mix_70 ?_
    refine k_istore_n (lv' := [(2, .int (H 0)), (0, .ref m0), (1, .int (nI a0))]) X dX5_mix_71 rfl (by decide) rfl ?_
    refine k_aload_n X dX5_mix_72 rfl 1 rfl ?_
    refine k_get (v := .ref yh) X 0 5 16 rfl rfl (by decide) fl_X5_42 in_X5 rfl rfl dX5_mix_73 ?_
    refine k_iconst (v := 1) X dX5_mix_76 (by decide) ?_
    refine k_iald (v := H 1) X 3 rfl (vp_in_nI (n := 1) (by omega) (by omega)) (by rw [show ((1 : Int32).toNatClampNeg) = 1 from rfl]) dX5_mix_77 ?_
    refine k_istore_n (lv' := [(3, .int (H 1)), (2, .int (H 0)), (0, .ref m0), (1, .int (nI a0))]) X dX5_mix_78 rfl (by decide) rfl ?_
    refine k_aload_n X dX5_mix_79 rfl 2 rfl ?_
    refine k_get (v := .ref yh) X 0 5 16 rfl rfl (by decide) fl_X5_42 in_X5 rfl rfl dX5_mix_80 ?_
    refine k_iconst (v := 2) X dX5_mix_83 (by decide) ?_
    refine k_iald (v := H 2) X 3 rfl (vp_in_nI (n := 2) (by omega) (by omega)) (by rw [show ((2 : Int32).toNatClampNeg) = 2 from rfl]) dX5_mix_84 ?_
    refine k_istore (lv' := [(4, .int (H 2)), (3, .int (H 1)), (2, .int (H 0)), (0, .ref m0), (1, .int (nI a0))]) X dX5_mix_85 (by decide) rfl ?_
    refine k_aload_n X dX5_mix_87 rfl 3 rfl ?_
    refine k_get (v := .ref yh) X 0 5 16 rfl rfl (by decide) fl_X5_42 in_X5 rfl rfl dX5_mix_88 ?_
    refine k_iconst (v := 3) X dX5_mix_91 (by decide) ?_
    refine k_iald (v := H 3) X 3 rfl (vp_in_nI (n := 3) (by omega) (by omega)) (by rw [show ((3 : Int32).toNatClampNeg) = 3 from rfl]) dX5_mix_92 ?_
    refine k_istore (lv' := [(5, .int (H 3)), (4, .int (H 2)), (3, .int (H 1)), (2, .int (H 0)), (0, .ref m0), (1, .int (nI a0))]) X dX5_mix_93 (by decide) rfl ?_
    refine k_iconst (v := 0) X dX5_mix_95 (by decide) ?_
    refine k_istore (lv' := [(6, .int 0), (5, .int (H 3)), (4, .int (H 2)), (3, .int (H 1)), (2, .int (H 0)), (0, .ref m0), (1, .int (nI a0))]) X dX5_mix_96 (by decide) rfl ?_
    refine k_lv (lv' := [(0, .ref m0), (2, .int ((mQ V1 H 0).1)), (3, .int ((mQ V1 H 0).2.1)), (4, .int ((mQ V1 H 0).2.2.1)), (5, .int ((mQ V1 H 0).2.2.2)), (6, .int (nI 0))]) [5, 4, 3, 2, 1, 0] rfl ?_
    refine k_sub (ws' := [(m0, .inr (5, [.ref yb, .ref yz, .ref ye, .int (nI dz), .int (nI sz), .int (nI wz), .int (nI bz), .int (nI uS), .int (nI uW), .ref ys, .ref yg, .int (nI mr), .int (nI ml), .int (nI mw), .int (nI ma), .ref yf, .ref yh, .ref yw, .ref yn, .ref yt, .ref yl, .int (nI tz)])), (yf, .inl (cB, 2112, .inl F)), (yw, .inl (cI, 16, .inl V1)), (yh, .inl (cI, 4, .inl H)), (yn, .inl (cI, 64, .inl KN)), (yt, .inl (cI, 16, .inl KT))]) [0, 1, 2, 3, 4, 5] (by decide) rfl rfl ?_
    refine k_wide (k := 0) (n := 0) (by (try dsimp only); omega) (by (try dsimp only); omega) ?_
    refine k_loop1 (pc1 := 98) (cl := fun (i : Nat) => 0) (sl := fun (i : Nat) => 0) (wsf := fun (i : Nat) => [(m0, .inr (5, [.ref yb, .ref yz, .ref ye, .int (nI dz), .int (nI sz), .int (nI wz), .int (nI bz), .int (nI uS), .int (nI uW), .ref ys, .ref yg, .int (nI mr), .int (nI ml), .int (nI mw), .int (nI ma), .ref yf, .ref yh, .ref yw, .ref yn, .ref yt, .ref yl, .int (nI tz)])), (yf, .inl (cB, 2112, .inl F)), (yw, .inl (cI, 16, .inl V1)), (yh, .inl (cI, 4, .inl H)), (yn, .inl (cI, 64, .inl KN)), (yt, .inl (cI, 16, .inl KT))]) (lvf := fun (i : Nat) => [(0, .ref m0), (2, .int ((mQ V1 H i).1)), (3, .int ((mQ V1 H i).2.1)), (4, .int ((mQ V1 H i).2.2.1)), (5, .int ((mQ V1 H i).2.2.2)), (6, .int (nI i))]) (stf := fun (i : Nat) => []) (I := fun (i : Nat) => i ≤ 64) (mu := fun (i : Nat) => 64 - i) ?_ 0 (Nat.zero_le _)
    intro i hJ jh
    try dsimp only at hJ jh
    try dsimp only
    refine k_iload X dX5_mix_98 5 rfl ?_
    refine k_bipush (v := 64) X dX5_mix_100 (by decide) ?_
    refine k_icmp_ge (tgt := 306) (xi := ((i : Nat) : Int)) (yi := (64 : Int)) X (nI_toInt (by omega)) (by decide) dX5_mix_102 (by decide) (fun c_102 => ?_) (fun c_102 => ?_)
    · obtain rfl : i = 64 := by omega
      refine k_aload_n X dX5_mix_306 rfl 0 rfl ?_
      refine k_get (v := .ref yh) X 0 5 16 rfl rfl (by decide) fl_X5_42 in_X5 rfl rfl dX5_mix_307 ?_
      refine k_iconst (v := 0) X dX5_mix_310 (by decide) ?_
      refine k_dup2 X dX5_mix_311 rfl rfl ?_
      refine k_iald (v := H 0) X 3 rfl (vp_in_nI (n := 0) (by omega) (by omega)) (by rw [show ((0 : Int32).toNatClampNeg) = 0 from rfl]) dX5_mix_312 ?_
      refine k_iload_n X dX5_mix_313 rfl 1 rfl ?_
      refine k_iadd X dX5_mix_314 ?_
      refine k_iast (f' := upd H 0 ((H 0) + ((mQ V1 H 64).1))) (ws' := [(m0, .inr (5, [.ref yb, .ref yz, .ref ye, .int (nI dz), .int (nI sz), .int (nI wz), .int (nI bz), .int (nI uS), .int (nI uW), .ref ys, .ref yg, .int (nI mr), .int (nI ml), .int (nI mw), .int (nI ma), .ref yf, .ref yh, .ref yw, .ref yn, .ref yt, .ref yl, .int (nI tz)])), (yf, .inl (cB, 2112, .inl F)), (yw, .inl (cI, 16, .inl V1)), (yh, .inl (cI, 4, .inl (upd H 0 ((H 0) + ((mQ V1 H 64).1))))), (yn, .inl (cI, 64, .inl KN)), (yt, .inl (cI, 16, .inl KT))]) X 3 rfl (vp_in_nI (n := 0) (by omega) (by omega)) (by rw [show ((0 : Int32).toNatClampNeg) = 0 from rfl]) rfl dX5_mix_315 ?_
      refine k_aload_n X dX5_mix_316 rfl 0 rfl ?_
      refine k_get (v := .ref yh) X 0 5 16 rfl rfl (by decide) fl_X5_42 in_X5 rfl rfl dX5_mix_317 ?_
      refine k_iconst (v := 1) X dX5_mix_320 (by decide) ?_
      refine k_dup2 X dX5_mix_321 rfl rfl ?_
      refine k_iald (v := (upd H 0 ((H 0) + ((mQ V1 H 64).1))) 1) X 3 rfl (vp_in_nI (n := 1) (by omega) (by omega)) (by rw [show ((1 : Int32).toNatClampNeg) = 1 from rfl]) dX5_mix_322 ?_
      refine k_as (y := H 1) (pk_un (by decide)) ?_
      refine k_iload_n X dX5_mix_323 rfl 2 rfl ?_
      refine k_iadd X dX5_mix_324 ?_
      refine k_iast (f' := upd (upd H 0 ((H 0) + ((mQ V1 H 64).1))) 1 ((H 1) + ((mQ V1 H 64).2.1))) (ws' := [(m0, .inr (5, [.ref yb, .ref yz, .ref ye, .int (nI dz), .int (nI sz), .int (nI wz), .int (nI bz), .int (nI uS), .int (nI uW), .ref ys, .ref yg, .int (nI mr), .int (nI ml), .int (nI mw), .int (nI ma), .ref yf, .ref yh, .ref yw, .ref yn, .ref yt, .ref yl, .int (nI tz)])), (yf, .inl (cB, 2112, .inl F)), (yw, .inl (cI, 16, .inl V1)), (yh, .inl (cI, 4, .inl (upd (upd H 0 ((H 0) + ((mQ V1 H 64).1))) 1 ((H 1) + ((mQ V1 H 64).2.1))))), (yn, .inl (cI, 64, .inl KN)), (yt, .inl (cI, 16, .inl KT))]) X 3 rfl (vp_in_nI (n := 1) (by omega) (by omega)) (by rw [show ((1 : Int32).toNatClampNeg) = 1 from rfl]) rfl dX5_mix_325 ?_
      refine k_aload_n X dX5_mix_326 rfl 0 rfl ?_
      refine k_get (v := .ref yh) X 0 5 16 rfl rfl (by decide) fl_X5_42 in_X5 rfl rfl dX5_mix_327 ?_
      refine k_iconst (v := 2) X dX5_mix_330 (by decide) ?_
      refine k_dup2 X dX5_mix_331 rfl rfl ?_
      refine k_iald (v := (upd (upd H 0 ((H 0) + ((mQ V1 H 64).1))) 1 ((H 1) + ((mQ V1 H 64).2.1))) 2) X 3 rfl (vp_in_nI (n := 2) (by omega) (by omega)) (by rw [show ((2 : Int32).toNatClampNeg) = 2 from rfl]) dX5_mix_332 ?_
      refine k_as (y := H 2) (by rw [pk_un (by decide), pk_un (by decide)]) ?_
      refine k_iload X dX5_mix_333 3 rfl ?_
      refine k_iadd X dX5_mix_335 ?_
      refine k_iast (f' := upd (upd (upd H 0 ((H 0) + ((mQ V1 H 64).1))) 1 ((H 1) + ((mQ V1 H 64).2.1))) 2 ((H 2) + ((mQ V1 H 64).2.2.1))) (ws' := [(m0, .inr (5, [.ref yb, .ref yz, .ref ye, .int (nI dz), .int (nI sz), .int (nI wz), .int (nI bz), .int (nI uS), .int (nI uW), .ref ys, .ref yg, .int (nI mr), .int (nI ml), .int (nI mw), .int (nI ma), .ref yf, .ref yh, .ref yw, .ref yn, .ref yt, .ref yl, .int (nI tz)])), (yf, .inl (cB, 2112, .inl F)), (yw, .inl (cI, 16, .inl V1)), (yh, .inl (cI, 4, .inl (upd (upd (upd H 0 ((H 0) + ((mQ V1 H 64).1))) 1 ((H 1) + ((mQ V1 H 64).2.1))) 2 ((H 2) + ((mQ V1 H 64).2.2.1))))), (yn, .inl (cI, 64, .inl KN)), (yt, .inl (cI, 16, .inl KT))]) X 3 rfl (vp_in_nI (n := 2) (by omega) (by omega)) (by rw [show ((2 : Int32).toNatClampNeg) = 2 from rfl]) rfl dX5_mix_336 ?_
      refine k_aload_n X dX5_mix_337 rfl 0 rfl ?_
      refine k_get (v := .ref yh) X 0 5 16 rfl rfl (by decide) fl_X5_42 in_X5 rfl rfl dX5_mix_338 ?_
      refine k_iconst (v := 3) X dX5_mix_341 (by decide) ?_
      refine k_dup2 X dX5_mix_342 rfl rfl ?_
      refine k_iald (v := (upd (upd (upd H 0 ((H 0) + ((mQ V1 H 64).1))) 1 ((H 1) + ((mQ V1 H 64).2.1))) 2 ((H 2) + ((mQ V1 H 64).2.2.1))) 3) X 3 rfl (vp_in_nI (n := 3) (by omega) (by omega)) (by rw [show ((3 : Int32).toNatClampNeg) = 3 from rfl]) dX5_mix_343 ?_
      refine k_as (y := H 3) (by rw [pk_un (by decide), pk_un (by decide), pk_un (by decide)]) ?_
      refine k_iload X dX5_mix_344 4 rfl ?_
      refine k_iadd X dX5_mix_346 ?_
      refine k_iast (f' := upd (upd (upd (upd H 0 ((H 0) + ((mQ V1 H 64).1))) 1 ((H 1) + ((mQ V1 H 64).2.1))) 2 ((H 2) + ((mQ V1 H 64).2.2.1))) 3 ((H 3) + ((mQ V1 H 64).2.2.2))) (ws' := [(m0, .inr (5, [.ref yb, .ref yz, .ref ye, .int (nI dz), .int (nI sz), .int (nI wz), .int (nI bz), .int (nI uS), .int (nI uW), .ref ys, .ref yg, .int (nI mr), .int (nI ml), .int (nI mw), .int (nI ma), .ref yf, .ref yh, .ref yw, .ref yn, .ref yt, .ref yl, .int (nI tz)])), (yf, .inl (cB, 2112, .inl F)), (yw, .inl (cI, 16, .inl V1)), (yh, .inl (cI, 4, .inl (upd (upd (upd (upd H 0 ((H 0) + ((mQ V1 H 64).1))) 1 ((H 1) + ((mQ V1 H 64).2.1))) 2 ((H 2) + ((mQ V1 H 64).2.2.1))) 3 ((H 3) + ((mQ V1 H 64).2.2.2))))), (yn, .inl (cI, 64, .inl KN)), (yt, .inl (cI, 16, .inl KT))]) X 3 rfl (vp_in_nI (n := 3) (by omega) (by omega)) (by rw [show ((3 : Int32).toNatClampNeg) = 3 from rfl]) rfl dX5_mix_347 ?_
      exact k_vret (u := [(m0, .inr (5, [.ref yb, .ref yz, .ref ye, .int (nI dz), .int (nI sz), .int (nI wz), .int (nI bz), .int (nI uS), .int (nI uW), .ref ys, .ref yg, .int (nI mr), .int (nI ml), .int (nI mw), .int (nI ma), .ref yf, .ref yh, .ref yw, .ref yn, .ref yt, .ref yl, .int (nI tz)])), (yf, .inl (cB, 2112, .inl F)), (yw, .inl (cI, 16, .inl V1)), (yh, .inl (cI, 4, .inl (upd (upd (upd (upd H 0 ((H 0) + ((mQ V1 H 64).1))) 1 ((H 1) + ((mQ V1 H 64).2.1))) 2 ((H 2) + ((mQ V1 H 64).2.2.1))) 3 ((H 3) + ((mQ V1 H 64).2.2.2))))), (yn, .inl (cI, 64, .inl KN)), (yt, .inl (cI, 16, .inl KT))]) X hr [0, 1, 2, 3, 4, 5] (by decide) rfl rfl (⟨V1, rfl, rfl, fun j hj => hI.2 j (by omega)⟩) (by (try dsimp only); omega) (by (try dsimp only); omega) dX5_mix_348
    · refine k_iload X dX5_mix_105 5 rfl ?_
      refine k_bipush (v := 16) X dX5_mix_107 (by decide) ?_
      refine k_idiv X dX5_mix_109 (by decide) ?_
      refine k_as (y := nI (i / 16)) (pk_div (a := i) (d := 16) (by omega) (by omega) (by omega)) ?_
      rcases (show i / 16 = 0 ∨ i / 16 = 1 ∨ i / 16 = 2 ∨ i / 16 = 3 by omega) with hr4 | hr4 | hr4 | hr4
      · refine k_as (y := 0) (by rw [hr4]; rfl) ?_
        refine k_istore (lv' := [(7, .int 0), (0, .ref m0), (2, .int ((mQ V1 H i).1)), (3, .int ((mQ V1 H i).2.1)), (4, .int ((mQ V1 H i).2.2.1)), (5, .int ((mQ V1 H i).2.2.2)), (6, .int (nI i))]) X dX5_mix_110 (by decide) rfl ?_
        refine k_iload X dX5_mix_112 0 rfl ?_
        refine k_if_ne (tgt := 131) (xi := (0 : Int)) X (by decide) dX5_mix_114 (by decide) (fun c_114 => ?_) (fun c_114 => ?_)
        · exact absurd c_114 (by decide)
        · refine k_iload_n X dX5_mix_117 rfl 3 rfl ?_
          refine k_iload X dX5_mix_118 4 rfl ?_
          refine k_iand X dX5_mix_120 ?_
          refine k_iload_n X dX5_mix_121 rfl 3 rfl ?_
          refine k_iconst (v := -1) X dX5_mix_122 (by decide) ?_
          refine k_ixor X dX5_mix_123 ?_
          refine k_iload X dX5_mix_124 5 rfl ?_
          refine k_iand X dX5_mix_126 ?_
          refine k_ior X dX5_mix_127 ?_
          refine k_goto (tgt := 177) X dX5_mix_128 (by decide) ?_
          refine k_as (y := mF (i / 16) (mQ V1 H i).2.1 (mQ V1 H i).2.2.1 (mQ V1 H i).2.2.2) (by rw [hr4]; rfl) ?_
          refine k_istore (lv' := [(8, .int (mF (i / 16) (mQ V1 H i).2.1 (mQ V1 H i).2.2.1 (mQ V1 H i).2.2.2)), (7, .int 0), (0, .ref m0), (2, .int ((mQ V1 H i).1)), (3, .int ((mQ V1 H i).2.1)), (4, .int ((mQ V1 H i).2.2.1)), (5, .int ((mQ V1 H i).2.2.2)), (6, .int (nI i))]) X dX5_mix_177 (by decide) rfl ?_
          refine k_iload X dX5_mix_179 1 rfl ?_
          refine k_if_ne (tgt := 189) (xi := (0 : Int)) X (by decide) dX5_mix_181 (by decide) (fun c_181 => ?_) (fun c_181 => ?_)
          · exact absurd c_181 (by decide)
          · refine k_iload X dX5_mix_184 7 rfl ?_
            refine k_goto (tgt := 233) X dX5_mix_186 (by decide) ?_
            refine k_as (y := nI (mG (i / 16) i)) (by rw [hr4]; show nI i = nI (i % 16); rw [Nat.mod_eq_of_lt (by omega)]) ?_
            have hmG := mG_lt (i / 16) i
            refine k_istore (lv' := [(9, .int (nI (mG (i / 16) i))), (8, .int (mF (i / 16) (mQ V1 H i).2.1 (mQ V1 H i).2.2.1 (mQ V1 H i).2.2.2)), (7, .int 0), (0, .ref m0), (2, .int ((mQ V1 H i).1)), (3, .int ((mQ V1 H i).2.1)), (4, .int ((mQ V1 H i).2.2.1)), (5, .int ((mQ V1 H i).2.2.2)), (6, .int (nI i))]) X dX5_mix_233 (by decide) rfl ?_
            refine k_iload_n X dX5_mix_235 rfl 4 rfl ?_
            refine k_iload X dX5_mix_236 1 rfl ?_
            refine k_iadd X dX5_mix_238 ?_
            refine k_aload_n X dX5_mix_239 rfl 3 rfl ?_
            refine k_get (v := .ref yn) X 0 5 18 rfl rfl (by decide) fl_X5_112 in_X5 rfl rfl dX5_mix_240 ?_
            refine k_iload X dX5_mix_243 8 rfl ?_
            refine k_iald (v := KN i) X 4 rfl (vp_in_nI (n := i) (by omega) (by omega)) (by rw [nI_clamp (n := i) (by omega)]) dX5_mix_245 ?_
            refine k_as (y := kSin i) (hKN i (by omega)) ?_
            refine k_iadd X dX5_mix_246 ?_
            refine k_aload_n X dX5_mix_247 rfl 3 rfl ?_
            refine k_get (v := .ref yw) X 0 5 17 rfl rfl (by decide) fl_X5_45 in_X5 rfl rfl dX5_mix_248 ?_
            refine k_iload X dX5_mix_251 0 rfl ?_
            refine k_iald (v := V1 (mG (i / 16) i)) X 2 rfl (vp_in_nI (n := mG (i / 16) i) (mG_lt _ _) (by decide)) (by rw [nI_clamp (n := mG (i / 16) i) (by omega)]) dX5_mix_253 ?_
            refine k_iadd X dX5_mix_254 ?_
            refine k_istore (lv' := [(10, .int (((((mQ V1 H i).1) + (mF (i / 16) (mQ V1 H i).2.1 (mQ V1 H i).2.2.1 (mQ V1 H i).2.2.2)) + (kSin i)) + (V1 (mG (i / 16) i)))), (9, .int (nI (mG (i / 16) i))), (8, .int (mF (i / 16) (mQ V1 H i).2.1 (mQ V1 H i).2.2.1 (mQ V1 H i).2.2.2)), (7, .int 0), (0, .ref m0), (2, .int ((mQ V1 H i).1)), (3, .int ((mQ V1 H i).2.1)), (4, .int ((mQ V1 H i).2.2.1)), (5, .int ((mQ V1 H i).2.2.2)), (6, .int (nI i))]) X dX5_mix_255 (by decide) rfl ?_
            refine k_aload_n X dX5_mix_257 rfl 4 rfl ?_
            refine k_get (v := .ref yt) X 0 5 19 rfl rfl (by decide) fl_X5_115 in_X5 rfl rfl dX5_mix_258 ?_
            refine k_iconst (v := 4) X dX5_mix_261 (by decide) ?_
            refine k_iload X dX5_mix_262 3 rfl ?_
            refine k_imul X dX5_mix_264 ?_
            refine k_as (y := nI (4 * (i / 16))) (by rw [hr4]; rfl) ?_
            refine k_iload X dX5_mix_265 9 rfl ?_
            refine k_iconst (v := 4) X dX5_mix_267 (by decide) ?_
            refine k_irem X dX5_mix_268 (by decide) ?_
            refine k_as (y := nI (i % 4)) (n_rem (d := 4) (by omega) (by omega) (by omega)) ?_
            refine k_iadd X dX5_mix_269 ?_
            refine k_as (y := nI (4 * (i / 16) + i % 4)) (nI_add _ _) ?_
            refine k_iald (v := KT (4 * (i / 16) + i % 4)) X 5 rfl (vp_in_nI (n := 4 * (i / 16) + i % 4) (by omega) (by omega)) (by rw [nI_clamp (n := 4 * (i / 16) + i % 4) (by omega)]) dX5_mix_270 ?_
            refine k_as (y := kTrn (4 * (i / 16) + i % 4)) (hKT _ (by omega)) ?_
            refine k_istore (lv' := [(11, .int (kTrn (4 * (i / 16) + i % 4))), (10, .int (((((mQ V1 H i).1) + (mF (i / 16) (mQ V1 H i).2.1 (mQ V1 H i).2.2.1 (mQ V1 H i).2.2.2)) + (kSin i)) + (V1 (mG (i / 16) i)))), (9, .int (nI (mG (i / 16) i))), (8, .int (mF (i / 16) (mQ V1 H i).2.1 (mQ V1 H i).2.2.1 (mQ V1 H i).2.2.2)), (7, .int 0), (0, .ref m0), (2, .int ((mQ V1 H i).1)), (3, .int ((mQ V1 H i).2.1)), (4, .int ((mQ V1 H i).2.2.1)), (5, .int ((mQ V1 H i).2.2.2)), (6, .int (nI i))]) X dX5_mix_271 (by decide) rfl ?_
            refine k_iload X dX5_mix_273 9 rfl ?_
            refine k_istore_n (lv' := [(2, .int ((mQ V1 H i).2.2.2)), (11, .int (kTrn (4 * (i / 16) + i % 4))), (10, .int (((((mQ V1 H i).1) + (mF (i / 16) (mQ V1 H i).2.1 (mQ V1 H i).2.2.1 (mQ V1 H i).2.2.2)) + (kSin i)) + (V1 (mG (i / 16) i)))), (9, .int (nI (mG (i / 16) i))), (8, .int (mF (i / 16) (mQ V1 H i).2.1 (mQ V1 H i).2.2.1 (mQ V1 H i).2.2.2)), (7, .int 0), (0, .ref m0), (3, .int ((mQ V1 H i).2.1)), (4, .int ((mQ V1 H i).2.2.1)), (5, .int ((mQ V1 H i).2.2.2)), (6, .int (nI i))]) X dX5_mix_275 rfl (by decide) rfl ?_
            refine k_iload X dX5_mix_276 8 rfl ?_
            refine k_istore (lv' := [(5, .int ((mQ V1 H i).2.2.1)), (2, .int ((mQ V1 H i).2.2.2)), (11, .int (kTrn (4 * (i / 16) + i % 4))), (10, .int (((((mQ V1 H i).1) + (mF (i / 16) (mQ V1 H i).2.1 (mQ V1 H i).2.2.1 (mQ V1 H i).2.2.2)) + (kSin i)) + (V1 (mG (i / 16) i)))), (9, .int (nI (mG (i / 16) i))), (8, .int (mF (i / 16) (mQ V1 H i).2.1 (mQ V1 H i).2.2.1 (mQ V1 H i).2.2.2)), (7, .int 0), (0, .ref m0), (3, .int ((mQ V1 H i).2.1)), (4, .int ((mQ V1 H i).2.2.1)), (6, .int (nI i))]) X dX5_mix_278 (by decide) rfl ?_
            refine k_iload_n X dX5_mix_280 rfl 8 rfl ?_
            refine k_istore (lv' := [(4, .int ((mQ V1 H i).2.1)), (5, .int ((mQ V1 H i).2.2.1)), (2, .int ((mQ V1 H i).2.2.2)), (11, .int (kTrn (4 * (i / 16) + i % 4))), (10, .int (((((mQ V1 H i).1) + (mF (i / 16) (mQ V1 H i).2.1 (mQ V1 H i).2.2.1 (mQ V1 H i).2.2.2)) + (kSin i)) + (V1 (mG (i / 16) i)))), (9, .int (nI (mG (i / 16) i))), (8, .int (mF (i / 16) (mQ V1 H i).2.1 (mQ V1 H i).2.2.1 (mQ V1 H i).2.2.2)), (7, .int 0), (0, .ref m0), (3, .int ((mQ V1 H i).2.1)), (6, .int (nI i))]) X dX5_mix_281 (by decide) rfl ?_
            refine k_iload_n X dX5_mix_283 rfl 9 rfl ?_
            refine k_iload X dX5_mix_284 4 rfl ?_
            refine k_iload X dX5_mix_286 3 rfl ?_
            refine k_ishl X dX5_mix_288 ?_
            refine k_iload X dX5_mix_289 4 rfl ?_
            refine k_bipush (v := 32) X dX5_mix_291 (by decide) ?_
            refine k_iload X dX5_mix_293 3 rfl ?_
            refine k_isub X dX5_mix_295 ?_
            refine k_iushr (v := ((((((mQ V1 H i).1) + (mF (i / 16) (mQ V1 H i).2.1 (mQ V1 H i).2.2.1 (mQ V1 H i).2.2.2)) + (kSin i)) + (V1 (mG (i / 16) i))).toUInt32 >>> ((32 - (kTrn (4 * (i / 16) + i % 4))).toUInt32 &&& Int32.toUInt32 31)).toInt32) X dX5_mix_296 rfl ?_
            refine k_ior X dX5_mix_297 ?_
            refine k_iadd X dX5_mix_298 ?_
            refine k_istore_n (lv' := [(3, .int (((mQ V1 H i).2.1) + (((((((mQ V1 H i).1) + (mF (i / 16) (mQ V1 H i).2.1 (mQ V1 H i).2.2.1 (mQ V1 H i).2.2.2)) + (kSin i)) + (V1 (mG (i / 16) i))) <<< ((kTrn (4 * (i / 16) + i % 4)) &&& 31)) ||| (((((((mQ V1 H i).1) + (mF (i / 16) (mQ V1 H i).2.1 (mQ V1 H i).2.2.1 (mQ V1 H i).2.2.2)) + (kSin i)) + (V1 (mG (i / 16) i))).toUInt32 >>> ((32 - (kTrn (4 * (i / 16) + i % 4))).toUInt32 &&& Int32.toUInt32 31)).toInt32)))), (4, .int ((mQ V1 H i).2.1)), (5, .int ((mQ V1 H i).2.2.1)), (2, .int ((mQ V1 H i).2.2.2)), (11, .int (kTrn (4 * (i / 16) + i % 4))), (10, .int (((((mQ V1 H i).1) + (mF (i / 16) (mQ V1 H i).2.1 (mQ V1 H i).2.2.1 (mQ V1 H i).2.2.2)) + (kSin i)) + (V1 (mG (i / 16) i)))), (9, .int (nI (mG (i / 16) i))), (8, .int (mF (i / 16) (mQ V1 H i).2.1 (mQ V1 H i).2.2.1 (mQ V1 H i).2.2.2)), (7, .int 0), (0, .ref m0), (6, .int (nI i))]) X dX5_mix_299 rfl (by decide) rfl ?_
            refine k_iinc (v := nI (i + 1)) (lv' := [(6, .int (nI (i + 1))), (3, .int (((mQ V1 H i).2.1) + (((((((mQ V1 H i).1) + (mF (i / 16) (mQ V1 H i).2.1 (mQ V1 H i).2.2.1 (mQ V1 H i).2.2.2)) + (kSin i)) + (V1 (mG (i / 16) i))) <<< ((kTrn (4 * (i / 16) + i % 4)) &&& 31)) ||| (((((((mQ V1 H i).1) + (mF (i / 16) (mQ V1 H i).2.1 (mQ V1 H i).2.2.1 (mQ V1 H i).2.2.2)) + (kSin i)) + (V1 (mG (i / 16) i))).toUInt32 >>> ((32 - (kTrn (4 * (i / 16) + i % 4))).toUInt32 &&& Int32.toUInt32 31)).toInt32)))), (4, .int ((mQ V1 H i).2.1)), (5, .int ((mQ V1 H i).2.2.1)), (2, .int ((mQ V1 H i).2.2.2)), (11, .int (kTrn (4 * (i / 16) + i % 4))), (10, .int (((((mQ V1 H i).1) + (mF (i / 16) (mQ V1 H i).2.1 (mQ V1 H i).2.2.1 (mQ V1 H i).2.2.2)) + (kSin i)) + (V1 (mG (i / 16) i)))), (9, .int (nI (mG (i / 16) i))), (8, .int (mF (i / 16) (mQ V1 H i).2.1 (mQ V1 H i).2.2.1 (mQ V1 H i).2.2.2)), (7, .int 0), (0, .ref m0)]) X dX5_mix_300 10 rfl (nI_1 _) (by decide) rfl ?_
            refine k_goto (tgt := 98) X dX5_mix_303 (by decide) ?_
            refine k_lv (lv' := [(0, .ref m0), (2, .int ((mQ V1 H (i + 1)).1)), (3, .int ((mQ V1 H (i + 1)).2.1)), (4, .int ((mQ V1 H (i + 1)).2.2.1)), (5, .int ((mQ V1 H (i + 1)).2.2.2)), (6, .int (nI (i + 1)))]) [10, 4, 1, 2, 3, 0] rfl ?_
            refine k_sub (ws' := [(m0, .inr (5, [.ref yb, .ref yz, .ref ye, .int (nI dz), .int (nI sz), .int (nI wz), .int (nI bz), .int (nI uS), .int (nI uW), .ref ys, .ref yg, .int (nI mr), .int (nI ml), .int (nI mw), .int (nI ma), .ref yf, .ref yh, .ref yw, .ref yn, .ref yt, .ref yl, .int (nI tz)])), (yf, .inl (cB, 2112, .inl F)), (yw, .inl (cI, 16, .inl V1)), (yh, .inl (cI, 4, .inl H)), (yn, .inl (cI, 64, .inl KN)), (yt, .inl (cI, 16, .inl KT))]) [0, 1, 2, 3, 4, 5] (by decide) rfl rfl ?_
            refine k_wide (k := 0) (n := 0) (by (try dsimp only); omega) (by (try dsimp only); omega) ?_
            exact jh (i + 1) (by omega) (by omega)
      · refine k_as (y := 1) (by rw [hr4]; rfl) ?_
        refine k_istore (lv' := [(7, .int 1), (0, .ref m0), (2, .int ((mQ V1 H i).1)), (3, .int ((mQ V1 H i).2.1)), (4, .int ((mQ V1 H i).2.2.1)), (5, .int ((mQ V1 H i).2.2.2)), (6, .int (nI i))]) X dX5_mix_110 (by decide) rfl ?_
        refine k_iload X dX5_mix_112 0 rfl ?_
        refine k_if_ne (tgt := 131) (xi := (1 : Int)) X (by decide) dX5_mix_114 (by decide) (fun c_114 => ?_) (fun c_114 => ?_)
        · refine k_iload X dX5_mix_131 0 rfl ?_
          refine k_iconst (v := 1) X dX5_mix_133 (by decide) ?_
          refine k_icmp_ne (tgt := 152) (xi := (1 : Int)) (yi := (1 : Int)) X (by decide) (by decide) dX5_mix_134 (by decide) (fun c_134 => ?_) (fun c_134 => ?_)
          · exact absurd c_134 (by decide)
          · refine k_iload X dX5_mix_137 5 rfl ?_
            refine k_iload_n X dX5_mix_139 rfl 3 rfl ?_
            refine k_iand X dX5_mix_140 ?_
            refine k_iload X dX5_mix_141 5 rfl ?_
            refine k_iconst (v := -1) X dX5_mix_143 (by decide) ?_
            refine k_ixor X dX5_mix_144 ?_
            refine k_iload X dX5_mix_145 4 rfl ?_
            refine k_iand X dX5_mix_147 ?_
            refine k_ior X dX5_mix_148 ?_
            refine k_goto (tgt := 177) X dX5_mix_149 (by decide) ?_
            refine k_as (y := mF (i / 16) (mQ V1 H i).2.1 (mQ V1 H i).2.2.1 (mQ V1 H i).2.2.2) (by rw [hr4]; exact mF_1 _ _ _) ?_
            refine k_istore (lv' := [(8, .int (mF (i / 16) (mQ V1 H i).2.1 (mQ V1 H i).2.2.1 (mQ V1 H i).2.2.2)), (7, .int 1), (0, .ref m0), (2, .int ((mQ V1 H i).1)), (3, .int ((mQ V1 H i).2.1)), (4, .int ((mQ V1 H i).2.2.1)), (5, .int ((mQ V1 H i).2.2.2)), (6, .int (nI i))]) X dX5_mix_177 (by decide) rfl ?_
            refine k_iload X dX5_mix_179 1 rfl ?_
            refine k_if_ne (tgt := 189) (xi := (1 : Int)) X (by decide) dX5_mix_181 (by decide) (fun c_181 => ?_) (fun c_181 => ?_)
            · refine k_iload X dX5_mix_189 1 rfl ?_
              refine k_iconst (v := 1) X dX5_mix_191 (by decide) ?_
              refine k_icmp_ne (tgt := 207) (xi := (1 : Int)) (yi := (1 : Int)) X (by decide) (by decide) dX5_mix_192 (by decide) (fun c_192 => ?_) (fun c_192 => ?_)
              · exact absurd c_192 (by decide)
              · refine k_iconst (v := 5) X dX5_mix_195 (by decide) ?_
                refine k_iload X dX5_mix_196 7 rfl ?_
                refine k_imul X dX5_mix_198 ?_
                refine k_as (y := nI (5 * i)) (n_mul 5 i) ?_
                refine k_iconst (v := 1) X dX5_mix_199 (by decide) ?_
                refine k_iadd X dX5_mix_200 ?_
                refine k_as (y := nI (5 * i + 1)) (nI_1 _) ?_
                refine k_bipush (v := 16) X dX5_mix_201 (by decide) ?_
                refine k_irem X dX5_mix_203 (by decide) ?_
                refine k_goto (tgt := 233) X dX5_mix_204 (by decide) ?_
                refine k_as (y := nI (mG (i / 16) i)) (by rw [hr4]; exact n_rem (d := 16) (by omega) (by omega) (by omega)) ?_
                have hmG := mG_lt (i / 16) i
                refine k_istore (lv' := [(9, .int (nI (mG (i / 16) i))), (8, .int (mF (i / 16) (mQ V1 H i).2.1 (mQ V1 H i).2.2.1 (mQ V1 H i).2.2.2)), (7, .int 1), (0, .ref m0), (2, .int ((mQ V1 H i).1)), (3, .int ((mQ V1 H i).2.1)), (4, .int ((mQ V1 H i).2.2.1)), (5, .int ((mQ V1 H i).2.2.2)), (6, .int (nI i))]) X dX5_mix_233 (by decide) rfl ?_
                refine k_iload_n X dX5_mix_235 rfl 4 rfl ?_
                refine k_iload X dX5_mix_236 1 rfl ?_
                refine k_iadd X dX5_mix_238 ?_
                refine k_aload_n X dX5_mix_239 rfl 3 rfl ?_
                refine k_get (v := .ref yn) X 0 5 18 rfl rfl (by decide) fl_X5_112 in_X5 rfl rfl dX5_mix_240 ?_
                refine k_iload X dX5_mix_243 8 rfl ?_
                refine k_iald (v := KN i) X 4 rfl (vp_in_nI (n := i) (by omega) (by omega)) (by rw [nI_clamp (n := i) (by omega)]) dX5_mix_245 ?_
                refine k_as (y := kSin i) (hKN i (by omega)) ?_
                refine k_iadd X dX5_mix_246 ?_
                refine k_aload_n X dX5_mix_247 rfl 3 rfl ?_
                refine k_get (v := .ref yw) X 0 5 17 rfl rfl (by decide) fl_X5_45 in_X5 rfl rfl dX5_mix_248 ?_
                refine k_iload X dX5_mix_251 0 rfl ?_
                refine k_iald (v := V1 (mG (i / 16) i)) X 2 rfl (vp_in_nI (n := mG (i / 16) i) (mG_lt _ _) (by decide)) (by rw [nI_clamp (n := mG (i / 16) i) (by omega)]) dX5_mix_253 ?_
                refine k_iadd X dX5_mix_254 ?_
                refine k_istore (lv' := [(10, .int (((((mQ V1 H i).1) + (mF (i / 16) (mQ V1 H i).2.1 (mQ V1 H i).2.2.1 (mQ V1 H i).2.2.2)) + (kSin i)) + (V1 (mG (i / 16) i)))), (9, .int (nI (mG (i / 16) i))), (8, .int (mF (i / 16) (mQ V1 H i).2.1 (mQ V1 H i).2.2.1 (mQ V1 H i).2.2.2)), (7, .int 1), (0, .ref m0), (2, .int ((mQ V1 H i).1)), (3, .int ((mQ V1 H i).2.1)), (4, .int ((mQ V1 H i).2.2.1)), (5, .int ((mQ V1 H i).2.2.2)), (6, .int (nI i))]) X dX5_mix_255 (by decide) rfl ?_
                refine k_aload_n X dX5_mix_257 rfl 4 rfl ?_
                refine k_get (v := .ref yt) X 0 5 19 rfl rfl (by decide) fl_X5_115 in_X5 rfl rfl dX5_mix_258 ?_
                refine k_iconst (v := 4) X dX5_mix_261 (by decide) ?_
                refine k_iload X dX5_mix_262 3 rfl ?_
                refine k_imul X dX5_mix_264 ?_
                refine k_as (y := nI (4 * (i / 16))) (by rw [hr4]; rfl) ?_
                refine k_iload X dX5_mix_265 9 rfl ?_
                refine k_iconst (v := 4) X dX5_mix_267 (by decide) ?_
                refine k_irem X dX5_mix_268 (by decide) ?_
                refine k_as (y := nI (i % 4)) (n_rem (d := 4) (by omega) (by omega) (by omega)) ?_
                refine k_iadd X dX5_mix_269 ?_
                refine k_as (y := nI (4 * (i / 16) + i % 4)) (nI_add _ _) ?_
                refine k_iald (v := KT (4 * (i / 16) + i % 4)) X 5 rfl (vp_in_nI (n := 4 * (i / 16) + i % 4) (by omega) (by omega)) (by rw [nI_clamp (n := 4 * (i / 16) + i % 4) (by omega)]) dX5_mix_270 ?_
                refine k_as (y := kTrn (4 * (i / 16) + i % 4)) (hKT _ (by omega)) ?_
                refine k_istore (lv' := [(11, .int (kTrn (4 * (i / 16) + i % 4))), (10, .int (((((mQ V1 H i).1) + (mF (i / 16) (mQ V1 H i).2.1 (mQ V1 H i).2.2.1 (mQ V1 H i).2.2.2)) + (kSin i)) + (V1 (mG (i / 16) i)))), (9, .int (nI (mG (i / 16) i))), (8, .int (mF (i / 16) (mQ V1 H i).2.1 (mQ V1 H i).2.2.1 (mQ V1 H i).2.2.2)), (7, .int 1), (0, .ref m0), (2, .int ((mQ V1 H i).1)), (3, .int ((mQ V1 H i).2.1)), (4, .int ((mQ V1 H i).2.2.1)), (5, .int ((mQ V1 H i).2.2.2)), (6, .int (nI i))]) X dX5_mix_271 (by decide) rfl ?_
                refine k_iload X dX5_mix_273 9 rfl ?_
                refine k_istore_n (lv' := [(2, .int ((mQ V1 H i).2.2.2)), (11, .int (kTrn (4 * (i / 16) + i % 4))), (10, .int (((((mQ V1 H i).1) + (mF (i / 16) (mQ V1 H i).2.1 (mQ V1 H i).2.2.1 (mQ V1 H i).2.2.2)) + (kSin i)) + (V1 (mG (i / 16) i)))), (9, .int (nI (mG (i / 16) i))), (8, .int (mF (i / 16) (mQ V1 H i).2.1 (mQ V1 H i).2.2.1 (mQ V1 H i).2.2.2)), (7, .int 1), (0, .ref m0), (3, .int ((mQ V1 H i).2.1)), (4, .int ((mQ V1 H i).2.2.1)), (5, .int ((mQ V1 H i).2.2.2)), (6, .int (nI i))]) X dX5_mix_275 rfl (by decide) rfl ?_
                refine k_iload X dX5_mix_276 8 rfl ?_
                refine k_istore (lv' := [(5, .int ((mQ V1 H i).2.2.1)), (2, .int ((mQ V1 H i).2.2.2)), (11, .int (kTrn (4 * (i / 16) + i % 4))), (10, .int (((((mQ V1 H i).1) + (mF (i / 16) (mQ V1 H i).2.1 (mQ V1 H i).2.2.1 (mQ V1 H i).2.2.2)) + (kSin i)) + (V1 (mG (i / 16) i)))), (9, .int (nI (mG (i / 16) i))), (8, .int (mF (i / 16) (mQ V1 H i).2.1 (mQ V1 H i).2.2.1 (mQ V1 H i).2.2.2)), (7, .int 1), (0, .ref m0), (3, .int ((mQ V1 H i).2.1)), (4, .int ((mQ V1 H i).2.2.1)), (6, .int (nI i))]) X dX5_mix_278 (by decide) rfl ?_
                refine k_iload_n X dX5_mix_280 rfl 8 rfl ?_
                refine k_istore (lv' := [(4, .int ((mQ V1 H i).2.1)), (5, .int ((mQ V1 H i).2.2.1)), (2, .int ((mQ V1 H i).2.2.2)), (11, .int (kTrn (4 * (i / 16) + i % 4))), (10, .int (((((mQ V1 H i).1) + (mF (i / 16) (mQ V1 H i).2.1 (mQ V1 H i).2.2.1 (mQ V1 H i).2.2.2)) + (kSin i)) + (V1 (mG (i / 16) i)))), (9, .int (nI (mG (i / 16) i))), (8, .int (mF (i / 16) (mQ V1 H i).2.1 (mQ V1 H i).2.2.1 (mQ V1 H i).2.2.2)), (7, .int 1), (0, .ref m0), (3, .int ((mQ V1 H i).2.1)), (6, .int (nI i))]) X dX5_mix_281 (by decide) rfl ?_
                refine k_iload_n X dX5_mix_283 rfl 9 rfl ?_
                refine k_iload X dX5_mix_284 4 rfl ?_
                refine k_iload X dX5_mix_286 3 rfl ?_
                refine k_ishl X dX5_mix_288 ?_
                refine k_iload X dX5_mix_289 4 rfl ?_
                refine k_bipush (v := 32) X dX5_mix_291 (by decide) ?_
                refine k_iload X dX5_mix_293 3 rfl ?_
                refine k_isub X dX5_mix_295 ?_
                refine k_iushr (v := ((((((mQ V1 H i).1) + (mF (i / 16) (mQ V1 H i).2.1 (mQ V1 H i).2.2.1 (mQ V1 H i).2.2.2)) + (kSin i)) + (V1 (mG (i / 16) i))).toUInt32 >>> ((32 - (kTrn (4 * (i / 16) + i % 4))).toUInt32 &&& Int32.toUInt32 31)).toInt32) X dX5_mix_296 rfl ?_
                refine k_ior X dX5_mix_297 ?_
                refine k_iadd X dX5_mix_298 ?_
                refine k_istore_n (lv' := [(3, .int (((mQ V1 H i).2.1) + (((((((mQ V1 H i).1) + (mF (i / 16) (mQ V1 H i).2.1 (mQ V1 H i).2.2.1 (mQ V1 H i).2.2.2)) + (kSin i)) + (V1 (mG (i / 16) i))) <<< ((kTrn (4 * (i / 16) + i % 4)) &&& 31)) ||| (((((((mQ V1 H i).1) + (mF (i / 16) (mQ V1 H i).2.1 (mQ V1 H i).2.2.1 (mQ V1 H i).2.2.2)) + (kSin i)) + (V1 (mG (i / 16) i))).toUInt32 >>> ((32 - (kTrn (4 * (i / 16) + i % 4))).toUInt32 &&& Int32.toUInt32 31)).toInt32)))), (4, .int ((mQ V1 H i).2.1)), (5, .int ((mQ V1 H i).2.2.1)), (2, .int ((mQ V1 H i).2.2.2)), (11, .int (kTrn (4 * (i / 16) + i % 4))), (10, .int (((((mQ V1 H i).1) + (mF (i / 16) (mQ V1 H i).2.1 (mQ V1 H i).2.2.1 (mQ V1 H i).2.2.2)) + (kSin i)) + (V1 (mG (i / 16) i)))), (9, .int (nI (mG (i / 16) i))), (8, .int (mF (i / 16) (mQ V1 H i).2.1 (mQ V1 H i).2.2.1 (mQ V1 H i).2.2.2)), (7, .int 1), (0, .ref m0), (6, .int (nI i))]) X dX5_mix_299 rfl (by decide) rfl ?_
                refine k_iinc (v := nI (i + 1)) (lv' := [(6, .int (nI (i + 1))), (3, .int (((mQ V1 H i).2.1) + (((((((mQ V1 H i).1) + (mF (i / 16) (mQ V1 H i).2.1 (mQ V1 H i).2.2.1 (mQ V1 H i).2.2.2)) + (kSin i)) + (V1 (mG (i / 16) i))) <<< ((kTrn (4 * (i / 16) + i % 4)) &&& 31)) ||| (((((((mQ V1 H i).1) + (mF (i / 16) (mQ V1 H i).2.1 (mQ V1 H i).2.2.1 (mQ V1 H i).2.2.2)) + (kSin i)) + (V1 (mG (i / 16) i))).toUInt32 >>> ((32 - (kTrn (4 * (i / 16) + i % 4))).toUInt32 &&& Int32.toUInt32 31)).toInt32)))), (4, .int ((mQ V1 H i).2.1)), (5, .int ((mQ V1 H i).2.2.1)), (2, .int ((mQ V1 H i).2.2.2)), (11, .int (kTrn (4 * (i / 16) + i % 4))), (10, .int (((((mQ V1 H i).1) + (mF (i / 16) (mQ V1 H i).2.1 (mQ V1 H i).2.2.1 (mQ V1 H i).2.2.2)) + (kSin i)) + (V1 (mG (i / 16) i)))), (9, .int (nI (mG (i / 16) i))), (8, .int (mF (i / 16) (mQ V1 H i).2.1 (mQ V1 H i).2.2.1 (mQ V1 H i).2.2.2)), (7, .int 1), (0, .ref m0)]) X dX5_mix_300 10 rfl (nI_1 _) (by decide) rfl ?_
                refine k_goto (tgt := 98) X dX5_mix_303 (by decide) ?_
                refine k_lv (lv' := [(0, .ref m0), (2, .int ((mQ V1 H (i + 1)).1)), (3, .int ((mQ V1 H (i + 1)).2.1)), (4, .int ((mQ V1 H (i + 1)).2.2.1)), (5, .int ((mQ V1 H (i + 1)).2.2.2)), (6, .int (nI (i + 1)))]) [10, 4, 1, 2, 3, 0] rfl ?_
                refine k_sub (ws' := [(m0, .inr (5, [.ref yb, .ref yz, .ref ye, .int (nI dz), .int (nI sz), .int (nI wz), .int (nI bz), .int (nI uS), .int (nI uW), .ref ys, .ref yg, .int (nI mr), .int (nI ml), .int (nI mw), .int (nI ma), .ref yf, .ref yh, .ref yw, .ref yn, .ref yt, .ref yl, .int (nI tz)])), (yf, .inl (cB, 2112, .inl F)), (yw, .inl (cI, 16, .inl V1)), (yh, .inl (cI, 4, .inl H)), (yn, .inl (cI, 64, .inl KN)), (yt, .inl (cI, 16, .inl KT))]) [0, 1, 2, 3, 4, 5] (by decide) rfl rfl ?_
                refine k_wide (k := 0) (n := 0) (by (try dsimp only); omega) (by (try dsimp only); omega) ?_
                exact jh (i + 1) (by omega) (by omega)
            · exact absurd c_181 (by decide)
        · exact absurd c_114 (by decide)
      · refine k_as (y := 2) (by rw [hr4]; rfl) ?_
        refine k_istore (lv' := [(7, .int 2), (0, .ref m0), (2, .int ((mQ V1 H i).1)), (3, .int ((mQ V1 H i).2.1)), (4, .int ((mQ V1 H i).2.2.1)), (5, .int ((mQ V1 H i).2.2.2)), (6, .int (nI i))]) X dX5_mix_110 (by decide) rfl ?_
        refine k_iload X dX5_mix_112 0 rfl ?_
        refine k_if_ne (tgt := 131) (xi := (2 : Int)) X (by decide) dX5_mix_114 (by decide) (fun c_114 => ?_) (fun c_114 => ?_)
        · refine k_iload X dX5_mix_131 0 rfl ?_
          refine k_iconst (v := 1) X dX5_mix_133 (by decide) ?_
          refine k_icmp_ne (tgt := 152) (xi := (2 : Int)) (yi := (1 : Int)) X (by decide) (by decide) dX5_mix_134 (by decide) (fun c_134 => ?_) (fun c_134 => ?_)
          · refine k_iload X dX5_mix_152 0 rfl ?_
            refine k_iconst (v := 2) X dX5_mix_154 (by decide) ?_
            refine k_icmp_ne (tgt := 168) (xi := (2 : Int)) (yi := (2 : Int)) X (by decide) (by decide) dX5_mix_155 (by decide) (fun c_155 => ?_) (fun c_155 => ?_)
            · exact absurd c_155 (by decide)
            · refine k_iload_n X dX5_mix_158 rfl 3 rfl ?_
              refine k_iload X dX5_mix_159 4 rfl ?_
              refine k_ixor X dX5_mix_161 ?_
              refine k_iload X dX5_mix_162 5 rfl ?_
              refine k_ixor X dX5_mix_164 ?_
              refine k_goto (tgt := 177) X dX5_mix_165 (by decide) ?_
              refine k_as (y := mF (i / 16) (mQ V1 H i).2.1 (mQ V1 H i).2.2.1 (mQ V1 H i).2.2.2) (by rw [hr4]; rfl) ?_
              refine k_istore (lv' := [(8, .int (mF (i / 16) (mQ V1 H i).2.1 (mQ V1 H i).2.2.1 (mQ V1 H i).2.2.2)), (7, .int 2), (0, .ref m0), (2, .int ((mQ V1 H i).1)), (3, .int ((mQ V1 H i).2.1)), (4, .int ((mQ V1 H i).2.2.1)), (5, .int ((mQ V1 H i).2.2.2)), (6, .int (nI i))]) X dX5_mix_177 (by decide) rfl ?_
              refine k_iload X dX5_mix_179 1 rfl ?_
              refine k_if_ne (tgt := 189) (xi := (2 : Int)) X (by decide) dX5_mix_181 (by decide) (fun c_181 => ?_) (fun c_181 => ?_)
              · refine k_iload X dX5_mix_189 1 rfl ?_
                refine k_iconst (v := 1) X dX5_mix_191 (by decide) ?_
                refine k_icmp_ne (tgt := 207) (xi := (2 : Int)) (yi := (1 : Int)) X (by decide) (by decide) dX5_mix_192 (by decide) (fun c_192 => ?_) (fun c_192 => ?_)
                · refine k_iload X dX5_mix_207 1 rfl ?_
                  refine k_iconst (v := 2) X dX5_mix_209 (by decide) ?_
                  refine k_icmp_ne (tgt := 225) (xi := (2 : Int)) (yi := (2 : Int)) X (by decide) (by decide) dX5_mix_210 (by decide) (fun c_210 => ?_) (fun c_210 => ?_)
                  · exact absurd c_210 (by decide)
                  · refine k_iconst (v := 3) X dX5_mix_213 (by decide) ?_
                    refine k_iload X dX5_mix_214 7 rfl ?_
                    refine k_imul X dX5_mix_216 ?_
                    refine k_as (y := nI (3 * i)) (n_mul 3 i) ?_
                    refine k_iconst (v := 5) X dX5_mix_217 (by decide) ?_
                    refine k_iadd X dX5_mix_218 ?_
                    refine k_as (y := nI (3 * i + 5)) (nI_add _ 5) ?_
                    refine k_bipush (v := 16) X dX5_mix_219 (by decide) ?_
                    refine k_irem X dX5_mix_221 (by decide) ?_
                    refine k_goto (tgt := 233) X dX5_mix_222 (by decide) ?_
                    refine k_as (y := nI (mG (i / 16) i)) (by rw [hr4]; exact n_rem (d := 16) (by omega) (by omega) (by omega)) ?_
                    have hmG := mG_lt (i / 16) i
                    refine k_istore (lv' := [(9, .int (nI (mG (i / 16) i))), (8, .int (mF (i / 16) (mQ V1 H i).2.1 (mQ V1 H i).2.2.1 (mQ V1 H i).2.2.2)), (7, .int 2), (0, .ref m0), (2, .int ((mQ V1 H i).1)), (3, .int ((mQ V1 H i).2.1)), (4, .int ((mQ V1 H i).2.2.1)), (5, .int ((mQ V1 H i).2.2.2)), (6, .int (nI i))]) X dX5_mix_233 (by decide) rfl ?_
                    refine k_iload_n X dX5_mix_235 rfl 4 rfl ?_
                    refine k_iload X dX5_mix_236 1 rfl ?_
                    refine k_iadd X dX5_mix_238 ?_
                    refine k_aload_n X dX5_mix_239 rfl 3 rfl ?_
                    refine k_get (v := .ref yn) X 0 5 18 rfl rfl (by decide) fl_X5_112 in_X5 rfl rfl dX5_mix_240 ?_
                    refine k_iload X dX5_mix_243 8 rfl ?_
                    refine k_iald (v := KN i) X 4 rfl (vp_in_nI (n := i) (by omega) (by omega)) (by rw [nI_clamp (n := i) (by omega)]) dX5_mix_245 ?_
                    refine k_as (y := kSin i) (hKN i (by omega)) ?_
                    refine k_iadd X dX5_mix_246 ?_
                    refine k_aload_n X dX5_mix_247 rfl 3 rfl ?_
                    refine k_get (v := .ref yw) X 0 5 17 rfl rfl (by decide) fl_X5_45 in_X5 rfl rfl dX5_mix_248 ?_
                    refine k_iload X dX5_mix_251 0 rfl ?_
                    refine k_iald (v := V1 (mG (i / 16) i)) X 2 rfl (vp_in_nI (n := mG (i / 16) i) (mG_lt _ _) (by decide)) (by rw [nI_clamp (n := mG (i / 16) i) (by omega)]) dX5_mix_253 ?_
                    refine k_iadd X dX5_mix_254 ?_
                    refine k_istore (lv' := [(10, .int (((((mQ V1 H i).1) + (mF (i / 16) (mQ V1 H i).2.1 (mQ V1 H i).2.2.1 (mQ V1 H i).2.2.2)) + (kSin i)) + (V1 (mG (i / 16) i)))), (9, .int (nI (mG (i / 16) i))), (8, .int (mF (i / 16) (mQ V1 H i).2.1 (mQ V1 H i).2.2.1 (mQ V1 H i).2.2.2)), (7, .int 2), (0, .ref m0), (2, .int ((mQ V1 H i).1)), (3, .int ((mQ V1 H i).2.1)), (4, .int ((mQ V1 H i).2.2.1)), (5, .int ((mQ V1 H i).2.2.2)), (6, .int (nI i))]) X dX5_mix_255 (by decide) rfl ?_
                    refine k_aload_n X dX5_mix_257 rfl 4 rfl ?_
                    refine k_get (v := .ref yt) X 0 5 19 rfl rfl (by decide) fl_X5_115 in_X5 rfl rfl dX5_mix_258 ?_
                    refine k_iconst (v := 4) X dX5_mix_261 (by decide) ?_
                    refine k_iload X dX5_mix_262 3 rfl ?_
                    refine k_imul X dX5_mix_264 ?_
                    refine k_as (y := nI (4 * (i / 16))) (by rw [hr4]; rfl) ?_
                    refine k_iload X dX5_mix_265 9 rfl ?_
                    refine k_iconst (v := 4) X dX5_mix_267 (by decide) ?_
                    refine k_irem X dX5_mix_268 (by decide) ?_
                    refine k_as (y := nI (i % 4)) (n_rem (d := 4) (by omega) (by omega) (by omega)) ?_
                    refine k_iadd X dX5_mix_269 ?_
                    refine k_as (y := nI (4 * (i / 16) + i % 4)) (nI_add _ _) ?_
                    refine k_iald (v := KT (4 * (i / 16) + i % 4)) X 5 rfl (vp_in_nI (n := 4 * (i / 16) + i % 4) (by omega) (by omega)) (by rw [nI_clamp (n := 4 * (i / 16) + i % 4) (by omega)]) dX5_mix_270 ?_
                    refine k_as (y := kTrn (4 * (i / 16) + i % 4)) (hKT _ (by omega)) ?_
                    refine k_istore (lv' := [(11, .int (kTrn (4 * (i / 16) + i % 4))), (10, .int (((((mQ V1 H i).1) + (mF (i / 16) (mQ V1 H i).2.1 (mQ V1 H i).2.2.1 (mQ V1 H i).2.2.2)) + (kSin i)) + (V1 (mG (i / 16) i)))), (9, .int (nI (mG (i / 16) i))), (8, .int (mF (i / 16) (mQ V1 H i).2.1 (mQ V1 H i).2.2.1 (mQ V1 H i).2.2.2)), (7, .int 2), (0, .ref m0), (2, .int ((mQ V1 H i).1)), (3, .int ((mQ V1 H i).2.1)), (4, .int ((mQ V1 H i).2.2.1)), (5, .int ((mQ V1 H i).2.2.2)), (6, .int (nI i))]) X dX5_mix_271 (by decide) rfl ?_
                    refine k_iload X dX5_mix_273 9 rfl ?_
                    refine k_istore_n (lv' := [(2, .int ((mQ V1 H i).2.2.2)), (11, .int (kTrn (4 * (i / 16) + i % 4))), (10, .int (((((mQ V1 H i).1) + (mF (i / 16) (mQ V1 H i).2.1 (mQ V1 H i).2.2.1 (mQ V1 H i).2.2.2)) + (kSin i)) + (V1 (mG (i / 16) i)))), (9, .int (nI (mG (i / 16) i))), (8, .int (mF (i / 16) (mQ V1 H i).2.1 (mQ V1 H i).2.2.1 (mQ V1 H i).2.2.2)), (7, .int 2), (0, .ref m0), (3, .int ((mQ V1 H i).2.1)), (4, .int ((mQ V1 H i).2.2.1)), (5, .int ((mQ V1 H i).2.2.2)), (6, .int (nI i))]) X dX5_mix_275 rfl (by decide) rfl ?_
                    refine k_iload X dX5_mix_276 8 rfl ?_
                    refine k_istore (lv' := [(5, .int ((mQ V1 H i).2.2.1)), (2, .int ((mQ V1 H i).2.2.2)), (11, .int (kTrn (4 * (i / 16) + i % 4))), (10, .int (((((mQ V1 H i).1) + (mF (i / 16) (mQ V1 H i).2.1 (mQ V1 H i).2.2.1 (mQ V1 H i).2.2.2)) + (kSin i)) + (V1 (mG (i / 16) i)))), (9, .int (nI (mG (i / 16) i))), (8, .int (mF (i / 16) (mQ V1 H i).2.1 (mQ V1 H i).2.2.1 (mQ V1 H i).2.2.2)), (7, .int 2), (0, .ref m0), (3, .int ((mQ V1 H i).2.1)), (4, .int ((mQ V1 H i).2.2.1)), (6, .int (nI i))]) X dX5_mix_278 (by decide) rfl ?_
                    refine k_iload_n X dX5_mix_280 rfl 8 rfl ?_
                    refine k_istore (lv' := [(4, .int ((mQ V1 H i).2.1)), (5, .int ((mQ V1 H i).2.2.1)), (2, .int ((mQ V1 H i).2.2.2)), (11, .int (kTrn (4 * (i / 16) + i % 4))), (10, .int (((((mQ V1 H i).1) + (mF (i / 16) (mQ V1 H i).2.1 (mQ V1 H i).2.2.1 (mQ V1 H i).2.2.2)) + (kSin i)) + (V1 (mG (i / 16) i)))), (9, .int (nI (mG (i / 16) i))), (8, .int (mF (i / 16) (mQ V1 H i).2.1 (mQ V1 H i).2.2.1 (mQ V1 H i).2.2.2)), (7, .int 2), (0, .ref m0), (3, .int ((mQ V1 H i).2.1)), (6, .int (nI i))]) X dX5_mix_281 (by decide) rfl ?_
                    refine k_iload_n X dX5_mix_283 rfl 9 rfl ?_
                    refine k_iload X dX5_mix_284 4 rfl ?_
                    refine k_iload X dX5_mix_286 3 rfl ?_
                    refine k_ishl X dX5_mix_288 ?_
                    refine k_iload X dX5_mix_289 4 rfl ?_
                    refine k_bipush (v := 32) X dX5_mix_291 (by decide) ?_
                    refine k_iload X dX5_mix_293 3 rfl ?_
                    refine k_isub X dX5_mix_295 ?_
                    refine k_iushr (v := ((((((mQ V1 H i).1) + (mF (i / 16) (mQ V1 H i).2.1 (mQ V1 H i).2.2.1 (mQ V1 H i).2.2.2)) + (kSin i)) + (V1 (mG (i / 16) i))).toUInt32 >>> ((32 - (kTrn (4 * (i / 16) + i % 4))).toUInt32 &&& Int32.toUInt32 31)).toInt32) X dX5_mix_296 rfl ?_
                    refine k_ior X dX5_mix_297 ?_
                    refine k_iadd X dX5_mix_298 ?_
                    refine k_istore_n (lv' := [(3, .int (((mQ V1 H i).2.1) + (((((((mQ V1 H i).1) + (mF (i / 16) (mQ V1 H i).2.1 (mQ V1 H i).2.2.1 (mQ V1 H i).2.2.2)) + (kSin i)) + (V1 (mG (i / 16) i))) <<< ((kTrn (4 * (i / 16) + i % 4)) &&& 31)) ||| (((((((mQ V1 H i).1) + (mF (i / 16) (mQ V1 H i).2.1 (mQ V1 H i).2.2.1 (mQ V1 H i).2.2.2)) + (kSin i)) + (V1 (mG (i / 16) i))).toUInt32 >>> ((32 - (kTrn (4 * (i / 16) + i % 4))).toUInt32 &&& Int32.toUInt32 31)).toInt32)))), (4, .int ((mQ V1 H i).2.1)), (5, .int ((mQ V1 H i).2.2.1)), (2, .int ((mQ V1 H i).2.2.2)), (11, .int (kTrn (4 * (i / 16) + i % 4))), (10, .int (((((mQ V1 H i).1) + (mF (i / 16) (mQ V1 H i).2.1 (mQ V1 H i).2.2.1 (mQ V1 H i).2.2.2)) + (kSin i)) + (V1 (mG (i / 16) i)))), (9, .int (nI (mG (i / 16) i))), (8, .int (mF (i / 16) (mQ V1 H i).2.1 (mQ V1 H i).2.2.1 (mQ V1 H i).2.2.2)), (7, .int 2), (0, .ref m0), (6, .int (nI i))]) X dX5_mix_299 rfl (by decide) rfl ?_
                    refine k_iinc (v := nI (i + 1)) (lv' := [(6, .int (nI (i + 1))), (3, .int (((mQ V1 H i).2.1) + (((((((mQ V1 H i).1) + (mF (i / 16) (mQ V1 H i).2.1 (mQ V1 H i).2.2.1 (mQ V1 H i).2.2.2)) + (kSin i)) + (V1 (mG (i / 16) i))) <<< ((kTrn (4 * (i / 16) + i % 4)) &&& 31)) ||| (((((((mQ V1 H i).1) + (mF (i / 16) (mQ V1 H i).2.1 (mQ V1 H i).2.2.1 (mQ V1 H i).2.2.2)) + (kSin i)) + (V1 (mG (i / 16) i))).toUInt32 >>> ((32 - (kTrn (4 * (i / 16) + i % 4))).toUInt32 &&& Int32.toUInt32 31)).toInt32)))), (4, .int ((mQ V1 H i).2.1)), (5, .int ((mQ V1 H i).2.2.1)), (2, .int ((mQ V1 H i).2.2.2)), (11, .int (kTrn (4 * (i / 16) + i % 4))), (10, .int (((((mQ V1 H i).1) + (mF (i / 16) (mQ V1 H i).2.1 (mQ V1 H i).2.2.1 (mQ V1 H i).2.2.2)) + (kSin i)) + (V1 (mG (i / 16) i)))), (9, .int (nI (mG (i / 16) i))), (8, .int (mF (i / 16) (mQ V1 H i).2.1 (mQ V1 H i).2.2.1 (mQ V1 H i).2.2.2)), (7, .int 2), (0, .ref m0)]) X dX5_mix_300 10 rfl (nI_1 _) (by decide) rfl ?_
                    refine k_goto (tgt := 98) X dX5_mix_303 (by decide) ?_
                    refine k_lv (lv' := [(0, .ref m0), (2, .int ((mQ V1 H (i + 1)).1)), (3, .int ((mQ V1 H (i + 1)).2.1)), (4, .int ((mQ V1 H (i + 1)).2.2.1)), (5, .int ((mQ V1 H (i + 1)).2.2.2)), (6, .int (nI (i + 1)))]) [10, 4, 1, 2, 3, 0] rfl ?_
                    refine k_sub (ws' := [(m0, .inr (5, [.ref yb, .ref yz, .ref ye, .int (nI dz), .int (nI sz), .int (nI wz), .int (nI bz), .int (nI uS), .int (nI uW), .ref ys, .ref yg, .int (nI mr), .int (nI ml), .int (nI mw), .int (nI ma), .ref yf, .ref yh, .ref yw, .ref yn, .ref yt, .ref yl, .int (nI tz)])), (yf, .inl (cB, 2112, .inl F)), (yw, .inl (cI, 16, .inl V1)), (yh, .inl (cI, 4, .inl H)), (yn, .inl (cI, 64, .inl KN)), (yt, .inl (cI, 16, .inl KT))]) [0, 1, 2, 3, 4, 5] (by decide) rfl rfl ?_
                    refine k_wide (k := 0) (n := 0) (by (try dsimp only); omega) (by (try dsimp only); omega) ?_
                    exact jh (i + 1) (by omega) (by omega)
                · exact absurd c_192 (by decide)
              · exact absurd c_181 (by decide)
          · exact absurd c_134 (by decide)
        · exact absurd c_114 (by decide)
      · refine k_as (y := 3) (by rw [hr4]; rfl) ?_
        refine k_istore (lv' := [(7, .int 3), (0, .ref m0), (2, .int ((mQ V1 H i).1)), (3, .int ((mQ V1 H i).2.1)), (4, .int ((mQ V1 H i).2.2.1)), (5, .int ((mQ V1 H i).2.2.2)), (6, .int (nI i))]) X dX5_mix_110 (by decide) rfl ?_
        refine k_iload X dX5_mix_112 0 rfl ?_
        refine k_if_ne (tgt := 131) (xi := (3 : Int)) X (by decide) dX5_mix_114 (by decide) (fun c_114 => ?_) (fun c_114 => ?_)
        · refine k_iload X dX5_mix_131 0 rfl ?_
          refine k_iconst (v := 1) X dX5_mix_133 (by decide) ?_
          refine k_icmp_ne (tgt := 152) (xi := (3 : Int)) (yi := (1 : Int)) X (by decide) (by decide) dX5_mix_134 (by decide) (fun c_134 => ?_) (fun c_134 => ?_)
          · refine k_iload X dX5_mix_152 0 rfl ?_
            refine k_iconst (v := 2) X dX5_mix_154 (by decide) ?_
            refine k_icmp_ne (tgt := 168) (xi := (3 : Int)) (yi := (2 : Int)) X (by decide) (by decide) dX5_mix_155 (by decide) (fun c_155 => ?_) (fun c_155 => ?_)
            · refine k_iload X dX5_mix_168 4 rfl ?_
              refine k_iload_n X dX5_mix_170 rfl 3 rfl ?_
              refine k_iload X dX5_mix_171 5 rfl ?_
              refine k_iconst (v := -1) X dX5_mix_173 (by decide) ?_
              refine k_ixor X dX5_mix_174 ?_
              refine k_ior X dX5_mix_175 ?_
              refine k_ixor X dX5_mix_176 ?_
              refine k_as (y := mF (i / 16) (mQ V1 H i).2.1 (mQ V1 H i).2.2.1 (mQ V1 H i).2.2.2) (by rw [hr4]; rfl) ?_
              refine k_istore (lv' := [(8, .int (mF (i / 16) (mQ V1 H i).2.1 (mQ V1 H i).2.2.1 (mQ V1 H i).2.2.2)), (7, .int 3), (0, .ref m0), (2, .int ((mQ V1 H i).1)), (3, .int ((mQ V1 H i).2.1)), (4, .int ((mQ V1 H i).2.2.1)), (5, .int ((mQ V1 H i).2.2.2)), (6, .int (nI i))]) X dX5_mix_177 (by decide) rfl ?_
              refine k_iload X dX5_mix_179 1 rfl ?_
              refine k_if_ne (tgt := 189) (xi := (3 : Int)) X (by decide) dX5_mix_181 (by decide) (fun c_181 => ?_) (fun c_181 => ?_)
              · refine k_iload X dX5_mix_189 1 rfl ?_
                refine k_iconst (v := 1) X dX5_mix_191 (by decide) ?_
                refine k_icmp_ne (tgt := 207) (xi := (3 : Int)) (yi := (1 : Int)) X (by decide) (by decide) dX5_mix_192 (by decide) (fun c_192 => ?_) (fun c_192 => ?_)
                · refine k_iload X dX5_mix_207 1 rfl ?_
                  refine k_iconst (v := 2) X dX5_mix_209 (by decide) ?_
                  refine k_icmp_ne (tgt := 225) (xi := (3 : Int)) (yi := (2 : Int)) X (by decide) (by decide) dX5_mix_210 (by decide) (fun c_210 => ?_) (fun c_210 => ?_)
                  · refine k_bipush (v := 7) X dX5_mix_225 (by decide) ?_
                    refine k_iload X dX5_mix_227 7 rfl ?_
                    refine k_imul X dX5_mix_229 ?_
                    refine k_as (y := nI (7 * i)) (n_mul 7 i) ?_
                    refine k_bipush (v := 16) X dX5_mix_230 (by decide) ?_
                    refine k_irem X dX5_mix_232 (by decide) ?_
                    refine k_as (y := nI (mG (i / 16) i)) (by rw [hr4]; exact n_rem (d := 16) (by omega) (by omega) (by omega)) ?_
                    have hmG := mG_lt (i / 16) i
                    refine k_istore (lv' := [(9, .int (nI (mG (i / 16) i))), (8, .int (mF (i / 16) (mQ V1 H i).2.1 (mQ V1 H i).2.2.1 (mQ V1 H i).2.2.2)), (7, .int 3), (0, .ref m0), (2, .int ((mQ V1 H i).1)), (3, .int ((mQ V1 H i).2.1)), (4, .int ((mQ V1 H i).2.2.1)), (5, .int ((mQ V1 H i).2.2.2)), (6, .int (nI i))]) X dX5_mix_233 (by decide) rfl ?_
                    refine k_iload_n X dX5_mix_235 rfl 4 rfl ?_
                    refine k_iload X dX5_mix_236 1 rfl ?_
                    refine k_iadd X dX5_mix_238 ?_
                    refine k_aload_n X dX5_mix_239 rfl 3 rfl ?_
                    refine k_get (v := .ref yn) X 0 5 18 rfl rfl (by decide) fl_X5_112 in_X5 rfl rfl dX5_mix_240 ?_
                    refine k_iload X dX5_mix_243 8 rfl ?_
                    refine k_iald (v := KN i) X 4 rfl (vp_in_nI (n := i) (by omega) (by omega)) (by rw [nI_clamp (n := i) (by omega)]) dX5_mix_245 ?_
                    refine k_as (y := kSin i) (hKN i (by omega)) ?_
                    refine k_iadd X dX5_mix_246 ?_
                    refine k_aload_n X dX5_mix_247 rfl 3 rfl ?_
                    refine k_get (v := .ref yw) X 0 5 17 rfl rfl (by decide) fl_X5_45 in_X5 rfl rfl dX5_mix_248 ?_
                    refine k_iload X dX5_mix_251 0 rfl ?_
                    refine k_iald (v := V1 (mG (i / 16) i)) X 2 rfl (vp_in_nI (n := mG (i / 16) i) (mG_lt _ _) (by decide)) (by rw [nI_clamp (n := mG (i / 16) i) (by omega)]) dX5_mix_253 ?_
                    refine k_iadd X dX5_mix_254 ?_
                    refine k_istore (lv' := [(10, .int (((((mQ V1 H i).1) + (mF (i / 16) (mQ V1 H i).2.1 (mQ V1 H i).2.2.1 (mQ V1 H i).2.2.2)) + (kSin i)) + (V1 (mG (i / 16) i)))), (9, .int (nI (mG (i / 16) i))), (8, .int (mF (i / 16) (mQ V1 H i).2.1 (mQ V1 H i).2.2.1 (mQ V1 H i).2.2.2)), (7, .int 3), (0, .ref m0), (2, .int ((mQ V1 H i).1)), (3, .int ((mQ V1 H i).2.1)), (4, .int ((mQ V1 H i).2.2.1)), (5, .int ((mQ V1 H i).2.2.2)), (6, .int (nI i))]) X dX5_mix_255 (by decide) rfl ?_
                    refine k_aload_n X dX5_mix_257 rfl 4 rfl ?_
                    refine k_get (v := .ref yt) X 0 5 19 rfl rfl (by decide) fl_X5_115 in_X5 rfl rfl dX5_mix_258 ?_
                    refine k_iconst (v := 4) X dX5_mix_261 (by decide) ?_
                    refine k_iload X dX5_mix_262 3 rfl ?_
                    refine k_imul X dX5_mix_264 ?_
                    refine k_as (y := nI (4 * (i / 16))) (by rw [hr4]; rfl) ?_
                    refine k_iload X dX5_mix_265 9 rfl ?_
                    refine k_iconst (v := 4) X dX5_mix_267 (by decide) ?_
                    refine k_irem X dX5_mix_268 (by decide) ?_
                    refine k_as (y := nI (i % 4)) (n_rem (d := 4) (by omega) (by omega) (by omega)) ?_
                    refine k_iadd X dX5_mix_269 ?_
                    refine k_as (y := nI (4 * (i / 16) + i % 4)) (nI_add _ _) ?_
                    refine k_iald (v := KT (4 * (i / 16) + i % 4)) X 5 rfl (vp_in_nI (n := 4 * (i / 16) + i % 4) (by omega) (by omega)) (by rw [nI_clamp (n := 4 * (i / 16) + i % 4) (by omega)]) dX5_mix_270 ?_
                    refine k_as (y := kTrn (4 * (i / 16) + i % 4)) (hKT _ (by omega)) ?_
                    refine k_istore (lv' := [(11, .int (kTrn (4 * (i / 16) + i % 4))), (10, .int (((((mQ V1 H i).1) + (mF (i / 16) (mQ V1 H i).2.1 (mQ V1 H i).2.2.1 (mQ V1 H i).2.2.2)) + (kSin i)) + (V1 (mG (i / 16) i)))), (9, .int (nI (mG (i / 16) i))), (8, .int (mF (i / 16) (mQ V1 H i).2.1 (mQ V1 H i).2.2.1 (mQ V1 H i).2.2.2)), (7, .int 3), (0, .ref m0), (2, .int ((mQ V1 H i).1)), (3, .int ((mQ V1 H i).2.1)), (4, .int ((mQ V1 H i).2.2.1)), (5, .int ((mQ V1 H i).2.2.2)), (6, .int (nI i))]) X dX5_mix_271 (by decide) rfl ?_
                    refine k_iload X dX5_mix_273 9 rfl ?_
                    refine k_istore_n (lv' := [(2, .int ((mQ V1 H i).2.2.2)), (11, .int (kTrn (4 * (i / 16) + i % 4))), (10, .int (((((mQ V1 H i).1) + (mF (i / 16) (mQ V1 H i).2.1 (mQ V1 H i).2.2.1 (mQ V1 H i).2.2.2)) + (kSin i)) + (V1 (mG (i / 16) i)))), (9, .int (nI (mG (i / 16) i))), (8, .int (mF (i / 16) (mQ V1 H i).2.1 (mQ V1 H i).2.2.1 (mQ V1 H i).2.2.2)), (7, .int 3), (0, .ref m0), (3, .int ((mQ V1 H i).2.1)), (4, .int ((mQ V1 H i).2.2.1)), (5, .int ((mQ V1 H i).2.2.2)), (6, .int (nI i))]) X dX5_mix_275 rfl (by decide) rfl ?_
                    refine k_iload X dX5_mix_276 8 rfl ?_
                    refine k_istore (lv' := [(5, .int ((mQ V1 H i).2.2.1)), (2, .int ((mQ V1 H i).2.2.2)), (11, .int (kTrn (4 * (i / 16) + i % 4))), (10, .int (((((mQ V1 H i).1) + (mF (i / 16) (mQ V1 H i).2.1 (mQ V1 H i).2.2.1 (mQ V1 H i).2.2.2)) + (kSin i)) + (V1 (mG (i / 16) i)))), (9, .int (nI (mG (i / 16) i))), (8, .int (mF (i / 16) (mQ V1 H i).2.1 (mQ V1 H i).2.2.1 (mQ V1 H i).2.2.2)), (7, .int 3), (0, .ref m0), (3, .int ((mQ V1 H i).2.1)), (4, .int ((mQ V1 H i).2.2.1)), (6, .int (nI i))]) X dX5_mix_278 (by decide) rfl ?_
                    refine k_iload_n X dX5_mix_280 rfl 8 rfl ?_
                    refine k_istore (lv' := [(4, .int ((mQ V1 H i).2.1)), (5, .int ((mQ V1 H i).2.2.1)), (2, .int ((mQ V1 H i).2.2.2)), (11, .int (kTrn (4 * (i / 16) + i % 4))), (10, .int (((((mQ V1 H i).1) + (mF (i / 16) (mQ V1 H i).2.1 (mQ V1 H i).2.2.1 (mQ V1 H i).2.2.2)) + (kSin i)) + (V1 (mG (i / 16) i)))), (9, .int (nI (mG (i / 16) i))), (8, .int (mF (i / 16) (mQ V1 H i).2.1 (mQ V1 H i).2.2.1 (mQ V1 H i).2.2.2)), (7, .int 3), (0, .ref m0), (3, .int ((mQ V1 H i).2.1)), (6, .int (nI i))]) X dX5_mix_281 (by decide) rfl ?_
                    refine k_iload_n X dX5_mix_283 rfl 9 rfl ?_
                    refine k_iload X dX5_mix_284 4 rfl ?_
                    refine k_iload X dX5_mix_286 3 rfl ?_
                    refine k_ishl X dX5_mix_288 ?_
                    refine k_iload X dX5_mix_289 4 rfl ?_
                    refine k_bipush (v := 32) X dX5_mix_291 (by decide) ?_
                    refine k_iload X dX5_mix_293 3 rfl ?_
                    refine k_isub X dX5_mix_295 ?_
                    refine k_iushr (v := ((((((mQ V1 H i).1) + (mF (i / 16) (mQ V1 H i).2.1 (mQ V1 H i).2.2.1 (mQ V1 H i).2.2.2)) + (kSin i)) + (V1 (mG (i / 16) i))).toUInt32 >>> ((32 - (kTrn (4 * (i / 16) + i % 4))).toUInt32 &&& Int32.toUInt32 31)).toInt32) X dX5_mix_296 rfl ?_
                    refine k_ior X dX5_mix_297 ?_
                    refine k_iadd X dX5_mix_298 ?_
                    refine k_istore_n (lv' := [(3, .int (((mQ V1 H i).2.1) + (((((((mQ V1 H i).1) + (mF (i / 16) (mQ V1 H i).2.1 (mQ V1 H i).2.2.1 (mQ V1 H i).2.2.2)) + (kSin i)) + (V1 (mG (i / 16) i))) <<< ((kTrn (4 * (i / 16) + i % 4)) &&& 31)) ||| (((((((mQ V1 H i).1) + (mF (i / 16) (mQ V1 H i).2.1 (mQ V1 H i).2.2.1 (mQ V1 H i).2.2.2)) + (kSin i)) + (V1 (mG (i / 16) i))).toUInt32 >>> ((32 - (kTrn (4 * (i / 16) + i % 4))).toUInt32 &&& Int32.toUInt32 31)).toInt32)))), (4, .int ((mQ V1 H i).2.1)), (5, .int ((mQ V1 H i).2.2.1)), (2, .int ((mQ V1 H i).2.2.2)), (11, .int (kTrn (4 * (i / 16) + i % 4))), (10, .int (((((mQ V1 H i).1) + (mF (i / 16) (mQ V1 H i).2.1 (mQ V1 H i).2.2.1 (mQ V1 H i).2.2.2)) + (kSin i)) + (V1 (mG (i / 16) i)))), (9, .int (nI (mG (i / 16) i))), (8, .int (mF (i / 16) (mQ V1 H i).2.1 (mQ V1 H i).2.2.1 (mQ V1 H i).2.2.2)), (7, .int 3), (0, .ref m0), (6, .int (nI i))]) X dX5_mix_299 rfl (by decide) rfl ?_
                    refine k_iinc (v := nI (i + 1)) (lv' := [(6, .int (nI (i + 1))), (3, .int (((mQ V1 H i).2.1) + (((((((mQ V1 H i).1) + (mF (i / 16) (mQ V1 H i).2.1 (mQ V1 H i).2.2.1 (mQ V1 H i).2.2.2)) + (kSin i)) + (V1 (mG (i / 16) i))) <<< ((kTrn (4 * (i / 16) + i % 4)) &&& 31)) ||| (((((((mQ V1 H i).1) + (mF (i / 16) (mQ V1 H i).2.1 (mQ V1 H i).2.2.1 (mQ V1 H i).2.2.2)) + (kSin i)) + (V1 (mG (i / 16) i))).toUInt32 >>> ((32 - (kTrn (4 * (i / 16) + i % 4))).toUInt32 &&& Int32.toUInt32 31)).toInt32)))), (4, .int ((mQ V1 H i).2.1)), (5, .int ((mQ V1 H i).2.2.1)), (2, .int ((mQ V1 H i).2.2.2)), (11, .int (kTrn (4 * (i / 16) + i % 4))), (10, .int (((((mQ V1 H i).1) + (mF (i / 16) (mQ V1 H i).2.1 (mQ V1 H i).2.2.1 (mQ V1 H i).2.2.2)) + (kSin i)) + (V1 (mG (i / 16) i)))), (9, .int (nI (mG (i / 16) i))), (8, .int (mF (i / 16) (mQ V1 H i).2.1 (mQ V1 H i).2.2.1 (mQ V1 H i).2.2.2)), (7, .int 3), (0, .ref m0)]) X dX5_mix_300 10 rfl (nI_1 _) (by decide) rfl ?_
                    refine k_goto (tgt := 98) X dX5_mix_303 (by decide) ?_
                    refine k_lv (lv' := [(0, .ref m0), (2, .int ((mQ V1 H (i + 1)).1)), (3, .int ((mQ V1 H (i + 1)).2.1)), (4, .int ((mQ V1 H (i + 1)).2.2.1)), (5, .int ((mQ V1 H (i + 1)).2.2.2)), (6, .int (nI (i + 1)))]) [10, 4, 1, 2, 3, 0] rfl ?_
                    refine k_sub (ws' := [(m0, .inr (5, [.ref yb, .ref yz, .ref ye, .int (nI dz), .int (nI sz), .int (nI wz), .int (nI bz), .int (nI uS), .int (nI uW), .ref ys, .ref yg, .int (nI mr), .int (nI ml), .int (nI mw), .int (nI ma), .ref yf, .ref yh, .ref yw, .ref yn, .ref yt, .ref yl, .int (nI tz)])), (yf, .inl (cB, 2112, .inl F)), (yw, .inl (cI, 16, .inl V1)), (yh, .inl (cI, 4, .inl H)), (yn, .inl (cI, 64, .inl KN)), (yt, .inl (cI, 16, .inl KT))]) [0, 1, 2, 3, 4, 5] (by decide) rfl rfl ?_
                    refine k_wide (k := 0) (n := 0) (by (try dsimp only); omega) (by (try dsimp only); omega) ?_
                    exact jh (i + 1) (by omega) (by omega)
                  · exact absurd c_210 (by decide)
                · exact absurd c_192 (by decide)
              · exact absurd c_181 (by decide)
            · exact absurd c_155 (by decide)
          · exact absurd c_134 (by decide)
        · exact absurd c_114 (by decide)
  · refine k_aload_n X dX5_mix_8 rfl 0 rfl ?_
    refine k_get (v := .ref yw) X 0 5 17 rfl rfl (by decide) fl_X5_45 in_X5 rfl rfl dX5_mix_9 ?_
    refine k_iload_n X dX5_mix_12 rfl 2 rfl ?_
    refine k_iconst (v := 0) X dX5_mix_13 (by decide) ?_
    refine k_iast (f' := upd V1 jj 0) (ws' := [(m0, .inr (5, [.ref yb, .ref yz, .ref ye, .int (nI dz), .int (nI sz), .int (nI wz), .int (nI bz), .int (nI uS), .int (nI uW), .ref ys, .ref yg, .int (nI mr), .int (nI ml), .int (nI mw), .int (nI ma), .ref yf, .ref yh, .ref yw, .ref yn, .ref yt, .ref yl, .int (nI tz)])), (yf, .inl (cB, 2112, .inl F)), (yw, .inl (cI, 16, .inl (upd V1 jj 0))), (yh, .inl (cI, 4, .inl H)), (yn, .inl (cI, 64, .inl KN)), (yt, .inl (cI, 16, .inl KT))]) X 2 rfl (vp_in_nI (n := jj) (by omega) (by omega)) (by rw [nI_clamp (n := jj) (by omega)]) rfl dX5_mix_14 ?_
    refine k_iconst (v := 3) X dX5_mix_15 (by decide) ?_
    refine k_istore_n (lv' := [(3, .int 3), (0, .ref m0), (1, .int (nI a0)), (2, .int (nI jj))]) X dX5_mix_16 rfl (by decide) rfl ?_
    refine k_iload_n X dX5_mix_17 rfl 0 rfl ?_
    refine k_if_lt (tgt := 59) (xi := (3 : Int)) X (by decide) dX5_mix_18 (by decide) (fun c_18 => ?_) (fun c_18 => ?_)
    · exact absurd c_18 (by decide)
    · refine k_aload_n X dX5_mix_21 rfl 1 rfl ?_
      refine k_get (v := .ref yw) X 0 5 17 rfl rfl (by decide) fl_X5_45 in_X5 rfl rfl dX5_mix_22 ?_
      refine k_iload_n X dX5_mix_25 rfl 3 rfl ?_
      refine k_aload_n X dX5_mix_26 rfl 1 rfl ?_
      refine k_get (v := .ref yw) X 0 5 17 rfl rfl (by decide) fl_X5_45 in_X5 rfl rfl dX5_mix_27 ?_
      refine k_iload_n X dX5_mix_30 rfl 3 rfl ?_
      refine k_iald (v := (upd V1 jj 0) jj) X 2 rfl (vp_in_nI (n := jj) (by omega) (by omega)) (by rw [nI_clamp (n := jj) (by omega)]) dX5_mix_31 ?_
      refine k_as (y := 0) (pk_us) ?_
      refine k_bipush (v := 8) X dX5_mix_32 (by decide) ?_
      refine k_ishl X dX5_mix_34 ?_
      refine k_aload_n X dX5_mix_35 rfl 1 rfl ?_
      refine k_get (v := .ref yf) X 0 5 15 rfl rfl (by decide) fl_X5_39 in_X5 rfl rfl dX5_mix_36 ?_
      refine k_iload_n X dX5_mix_39 rfl 2 rfl ?_
      refine k_iconst (v := 4) X dX5_mix_40 (by decide) ?_
      refine k_iload_n X dX5_mix_41 rfl 3 rfl ?_
      refine k_imul X dX5_mix_42 ?_
      refine k_as (y := nI (4 * jj)) (n_mul 4 jj) ?_
      refine k_iadd X dX5_mix_43 ?_
      refine k_as (y := nI (a0 + 4 * jj)) (nI_add _ _) ?_
      refine k_iload_n X dX5_mix_44 rfl 0 rfl ?_
      refine k_iadd X dX5_mix_45 ?_
      refine k_as (y := nI (a0 + 4 * jj + 3)) (nI_add _ 3) ?_
      refine k_bald (v := F (a0 + 4 * jj + 3)) X 1 rfl (vp_in_nI (n := a0 + 4 * jj + 3) (by omega) (by omega)) (by rw [nI_clamp (n := a0 + 4 * jj + 3) (by omega)]) dX5_mix_46 ?_
      refine k_sipush (v := 255) X dX5_mix_47 (by decide) ?_
      refine k_iand X dX5_mix_50 ?_
      refine k_ior X dX5_mix_51 ?_
      refine k_iast (f' := upd (upd V1 jj 0) jj (((0 : Int32) <<< (8 &&& 31)) ||| ((F (a0 + 4 * jj + 3)) &&& 255))) (ws' := [(m0, .inr (5, [.ref yb, .ref yz, .ref ye, .int (nI dz), .int (nI sz), .int (nI wz), .int (nI bz), .int (nI uS), .int (nI uW), .ref ys, .ref yg, .int (nI mr), .int (nI ml), .int (nI mw), .int (nI ma), .ref yf, .ref yh, .ref yw, .ref yn, .ref yt, .ref yl, .int (nI tz)])), (yf, .inl (cB, 2112, .inl F)), (yw, .inl (cI, 16, .inl (upd (upd V1 jj 0) jj (((0 : Int32) <<< (8 &&& 31)) ||| ((F (a0 + 4 * jj + 3)) &&& 255))))), (yh, .inl (cI, 4, .inl H)), (yn, .inl (cI, 64, .inl KN)), (yt, .inl (cI, 16, .inl KT))]) X 2 rfl (vp_in_nI (n := jj) (by omega) (by omega)) (by rw [nI_clamp (n := jj) (by omega)]) rfl dX5_mix_52 ?_
      refine k_iinc (v := 2) (lv' := [(3, .int 2), (0, .ref m0), (1, .int (nI a0)), (2, .int (nI jj))]) X dX5_mix_53 0 rfl (by decide) (by decide) rfl ?_
      refine k_goto (tgt := 17) X dX5_mix_56 (by decide) ?_
      refine k_iload_n X dX5_mix_17 rfl 0 rfl ?_
      refine k_if_lt (tgt := 59) (xi := (2 : Int)) X (by decide) dX5_mix_18 (by decide) (fun c_18 => ?_) (fun c_18 => ?_)
      · exact absurd c_18 (by decide)
      · refine k_aload_n X dX5_mix_21 rfl 1 rfl ?_
        refine k_get (v := .ref yw) X 0 5 17 rfl rfl (by decide) fl_X5_45 in_X5 rfl rfl dX5_mix_22 ?_
        refine k_iload_n X dX5_mix_25 rfl 3 rfl ?_
        refine k_aload_n X dX5_mix_26 rfl 1 rfl ?_
        refine k_get (v := .ref yw) X 0 5 17 rfl rfl (by decide) fl_X5_45 in_X5 rfl rfl dX5_mix_27 ?_
        refine k_iload_n X dX5_mix_30 rfl 3 rfl ?_
        refine k_iald (v := (upd (upd V1 jj 0) jj (((0 : Int32) <<< (8 &&& 31)) ||| ((F (a0 + 4 * jj + 3)) &&& 255))) jj) X 2 rfl (vp_in_nI (n := jj) (by omega) (by omega)) (by rw [nI_clamp (n := jj) (by omega)]) dX5_mix_31 ?_
        refine k_as (y := ((0 : Int32) <<< (8 &&& 31)) ||| ((F (a0 + 4 * jj + 3)) &&& 255)) (pk_us) ?_
        refine k_bipush (v := 8) X dX5_mix_32 (by decide) ?_
        refine k_ishl X dX5_mix_34 ?_
        refine k_aload_n X dX5_mix_35 rfl 1 rfl ?_
        refine k_get (v := .ref yf) X 0 5 15 rfl rfl (by decide) fl_X5_39 in_X5 rfl rfl dX5_mix_36 ?_
        refine k_iload_n X dX5_mix_39 rfl 2 rfl ?_
        refine k_iconst (v := 4) X dX5_mix_40 (by decide) ?_
        refine k_iload_n X dX5_mix_41 rfl 3 rfl ?_
        refine k_imul X dX5_mix_42 ?_
        refine k_as (y := nI (4 * jj)) (n_mul 4 jj) ?_
        refine k_iadd X dX5_mix_43 ?_
        refine k_as (y := nI (a0 + 4 * jj)) (nI_add _ _) ?_
        refine k_iload_n X dX5_mix_44 rfl 0 rfl ?_
        refine k_iadd X dX5_mix_45 ?_
        refine k_as (y := nI (a0 + 4 * jj + 2)) (nI_add _ 2) ?_
        refine k_bald (v := F (a0 + 4 * jj + 2)) X 1 rfl (vp_in_nI (n := a0 + 4 * jj + 2) (by omega) (by omega)) (by rw [nI_clamp (n := a0 + 4 * jj + 2) (by omega)]) dX5_mix_46 ?_
        refine k_sipush (v := 255) X dX5_mix_47 (by decide) ?_
        refine k_iand X dX5_mix_50 ?_
        refine k_ior X dX5_mix_51 ?_
        refine k_iast (f' := upd (upd (upd V1 jj 0) jj (((0 : Int32) <<< (8 &&& 31)) ||| ((F (a0 + 4 * jj + 3)) &&& 255))) jj (((((0 : Int32) <<< (8 &&& 31)) ||| ((F (a0 + 4 * jj + 3)) &&& 255)) <<< (8 &&& 31)) ||| ((F (a0 + 4 * jj + 2)) &&& 255))) (ws' := [(m0, .inr (5, [.ref yb, .ref yz, .ref ye, .int (nI dz), .int (nI sz), .int (nI wz), .int (nI bz), .int (nI uS), .int (nI uW), .ref ys, .ref yg, .int (nI mr), .int (nI ml), .int (nI mw), .int (nI ma), .ref yf, .ref yh, .ref yw, .ref yn, .ref yt, .ref yl, .int (nI tz)])), (yf, .inl (cB, 2112, .inl F)), (yw, .inl (cI, 16, .inl (upd (upd (upd V1 jj 0) jj (((0 : Int32) <<< (8 &&& 31)) ||| ((F (a0 + 4 * jj + 3)) &&& 255))) jj (((((0 : Int32) <<< (8 &&& 31)) ||| ((F (a0 + 4 * jj + 3)) &&& 255)) <<< (8 &&& 31)) ||| ((F (a0 + 4 * jj + 2)) &&& 255))))), (yh, .inl (cI, 4, .inl H)), (yn, .inl (cI, 64, .inl KN)), (yt, .inl (cI, 16, .inl KT))]) X 2 rfl (vp_in_nI (n := jj) (by omega) (by omega)) (by rw [nI_clamp (n := jj) (by omega)]) rfl dX5_mix_52 ?_
        refine k_iinc (v := 1) (lv' := [(3, .int 1), (0, .ref m0), (1, .int (nI a0)), (2, .int (nI jj))]) X dX5_mix_53 0 rfl (by decide) (by decide) rfl ?_
        refine k_goto (tgt := 17) X dX5_mix_56 (by decide) ?_
        refine k_iload_n X dX5_mix_17 rfl 0 rfl ?_
        refine k_if_lt (tgt := 59) (xi := (1 : Int)) X (by decide) dX5_mix_18 (by decide) (fun c_18 => ?_) (fun c_18 => ?_)
        · exact absurd c_18 (by decide)
        · refine k_aload_n X dX5_mix_21 rfl 1 rfl ?_
          refine k_get (v := .ref yw) X 0 5 17 rfl rfl (by decide) fl_X5_45 in_X5 rfl rfl dX5_mix_22 ?_
          refine k_iload_n X dX5_mix_25 rfl 3 rfl ?_
          refine k_aload_n X dX5_mix_26 rfl 1 rfl ?_
          refine k_get (v := .ref yw) X 0 5 17 rfl rfl (by decide) fl_X5_45 in_X5 rfl rfl dX5_mix_27 ?_
          refine k_iload_n X dX5_mix_30 rfl 3 rfl ?_
          refine k_iald (v := (upd (upd (upd V1 jj 0) jj (((0 : Int32) <<< (8 &&& 31)) ||| ((F (a0 + 4 * jj + 3)) &&& 255))) jj (((((0 : Int32) <<< (8 &&& 31)) ||| ((F (a0 + 4 * jj + 3)) &&& 255)) <<< (8 &&& 31)) ||| ((F (a0 + 4 * jj + 2)) &&& 255))) jj) X 2 rfl (vp_in_nI (n := jj) (by omega) (by omega)) (by rw [nI_clamp (n := jj) (by omega)]) dX5_mix_31 ?_
          refine k_as (y := ((((0 : Int32) <<< (8 &&& 31)) ||| ((F (a0 + 4 * jj + 3)) &&& 255)) <<< (8 &&& 31)) ||| ((F (a0 + 4 * jj + 2)) &&& 255)) (pk_us) ?_
          refine k_bipush (v := 8) X dX5_mix_32 (by decide) ?_
          refine k_ishl X dX5_mix_34 ?_
          refine k_aload_n X dX5_mix_35 rfl 1 rfl ?_
          refine k_get (v := .ref yf) X 0 5 15 rfl rfl (by decide) fl_X5_39 in_X5 rfl rfl dX5_mix_36 ?_
          refine k_iload_n X dX5_mix_39 rfl 2 rfl ?_
          refine k_iconst (v := 4) X dX5_mix_40 (by decide) ?_
          refine k_iload_n X dX5_mix_41 rfl 3 rfl ?_
          refine k_imul X dX5_mix_42 ?_
          refine k_as (y := nI (4 * jj)) (n_mul 4 jj) ?_
          refine k_iadd X dX5_mix_43 ?_
          refine k_as (y := nI (a0 + 4 * jj)) (nI_add _ _) ?_
          refine k_iload_n X dX5_mix_44 rfl 0 rfl ?_
          refine k_iadd X dX5_mix_45 ?_
          refine k_as (y := nI (a0 + 4 * jj + 1)) (nI_add _ 1) ?_
          refine k_bald (v := F (a0 + 4 * jj + 1)) X 1 rfl (vp_in_nI (n := a0 + 4 * jj + 1) (by omega) (by omega)) (by rw [nI_clamp (n := a0 + 4 * jj + 1) (by omega)]) dX5_mix_46 ?_
          refine k_sipush (v := 255) X dX5_mix_47 (by decide) ?_
          refine k_iand X dX5_mix_50 ?_
          refine k_ior X dX5_mix_51 ?_
          refine k_iast (f' := upd (upd (upd (upd V1 jj 0) jj (((0 : Int32) <<< (8 &&& 31)) ||| ((F (a0 + 4 * jj + 3)) &&& 255))) jj (((((0 : Int32) <<< (8 &&& 31)) ||| ((F (a0 + 4 * jj + 3)) &&& 255)) <<< (8 &&& 31)) ||| ((F (a0 + 4 * jj + 2)) &&& 255))) jj (((((((0 : Int32) <<< (8 &&& 31)) ||| ((F (a0 + 4 * jj + 3)) &&& 255)) <<< (8 &&& 31)) ||| ((F (a0 + 4 * jj + 2)) &&& 255)) <<< (8 &&& 31)) ||| ((F (a0 + 4 * jj + 1)) &&& 255))) (ws' := [(m0, .inr (5, [.ref yb, .ref yz, .ref ye, .int (nI dz), .int (nI sz), .int (nI wz), .int (nI bz), .int (nI uS), .int (nI uW), .ref ys, .ref yg, .int (nI mr), .int (nI ml), .int (nI mw), .int (nI ma), .ref yf, .ref yh, .ref yw, .ref yn, .ref yt, .ref yl, .int (nI tz)])), (yf, .inl (cB, 2112, .inl F)), (yw, .inl (cI, 16, .inl (upd (upd (upd (upd V1 jj 0) jj (((0 : Int32) <<< (8 &&& 31)) ||| ((F (a0 + 4 * jj + 3)) &&& 255))) jj (((((0 : Int32) <<< (8 &&& 31)) ||| ((F (a0 + 4 * jj + 3)) &&& 255)) <<< (8 &&& 31)) ||| ((F (a0 + 4 * jj + 2)) &&& 255))) jj (((((((0 : Int32) <<< (8 &&& 31)) ||| ((F (a0 + 4 * jj + 3)) &&& 255)) <<< (8 &&& 31)) ||| ((F (a0 + 4 * jj + 2)) &&& 255)) <<< (8 &&& 31)) ||| ((F (a0 + 4 * jj + 1)) &&& 255))))), (yh, .inl (cI, 4, .inl H)), (yn, .inl (cI, 64, .inl KN)), (yt, .inl (cI, 16, .inl KT))]) X 2 rfl (vp_in_nI (n := jj) (by omega) (by omega)) (by rw [nI_clamp (n := jj) (by omega)]) rfl dX5_mix_52 ?_
          refine k_iinc (v := 0) (lv' := [(3, .int 0), (0, .ref m0), (1, .int (nI a0)), (2, .int (nI jj))]) X dX5_mix_53 0 rfl (by decide) (by decide) rfl ?_
          refine k_goto (tgt := 17) X dX5_mix_56 (by decide) ?_
          refine k_iload_n X dX5_mix_17 rfl 0 rfl ?_
          refine k_if_lt (tgt := 59) (xi := (0 : Int)) X (by decide) dX5_mix_18 (by decide) (fun c_18 => ?_) (fun c_18 => ?_)
          · exact absurd c_18 (by decide)
          · refine k_aload_n X dX5_mix_21 rfl 1 rfl ?_
            refine k_get (v := .ref yw) X 0 5 17 rfl rfl (by decide) fl_X5_45 in_X5 rfl rfl dX5_mix_22 ?_
            refine k_iload_n X dX5_mix_25 rfl 3 rfl ?_
            refine k_aload_n X dX5_mix_26 rfl 1 rfl ?_
            refine k_get (v := .ref yw) X 0 5 17 rfl rfl (by decide) fl_X5_45 in_X5 rfl rfl dX5_mix_27 ?_
            refine k_iload_n X dX5_mix_30 rfl 3 rfl ?_
            refine k_iald (v := (upd (upd (upd (upd V1 jj 0) jj (((0 : Int32) <<< (8 &&& 31)) ||| ((F (a0 + 4 * jj + 3)) &&& 255))) jj (((((0 : Int32) <<< (8 &&& 31)) ||| ((F (a0 + 4 * jj + 3)) &&& 255)) <<< (8 &&& 31)) ||| ((F (a0 + 4 * jj + 2)) &&& 255))) jj (((((((0 : Int32) <<< (8 &&& 31)) ||| ((F (a0 + 4 * jj + 3)) &&& 255)) <<< (8 &&& 31)) ||| ((F (a0 + 4 * jj + 2)) &&& 255)) <<< (8 &&& 31)) ||| ((F (a0 + 4 * jj + 1)) &&& 255))) jj) X 2 rfl (vp_in_nI (n := jj) (by omega) (by omega)) (by rw [nI_clamp (n := jj) (by omega)]) dX5_mix_31 ?_
            refine k_as (y := ((((((0 : Int32) <<< (8 &&& 31)) ||| ((F (a0 + 4 * jj + 3)) &&& 255)) <<< (8 &&& 31)) ||| ((F (a0 + 4 * jj + 2)) &&& 255)) <<< (8 &&& 31)) ||| ((F (a0 + 4 * jj + 1)) &&& 255)) (pk_us) ?_
            refine k_bipush (v := 8) X dX5_mix_32 (by decide) ?_
            refine k_ishl X dX5_mix_34 ?_
            refine k_aload_n X dX5_mix_35 rfl 1 rfl ?_
            refine k_get (v := .ref yf) X 0 5 15 rfl rfl (by decide) fl_X5_39 in_X5 rfl rfl dX5_mix_36 ?_
            refine k_iload_n X dX5_mix_39 rfl 2 rfl ?_
            refine k_iconst (v := 4) X dX5_mix_40 (by decide) ?_
            refine k_iload_n X dX5_mix_41 rfl 3 rfl ?_
            refine k_imul X dX5_mix_42 ?_
            refine k_as (y := nI (4 * jj)) (n_mul 4 jj) ?_
            refine k_iadd X dX5_mix_43 ?_
            refine k_as (y := nI (a0 + 4 * jj)) (nI_add _ _) ?_
            refine k_iload_n X dX5_mix_44 rfl 0 rfl ?_
            refine k_iadd X dX5_mix_45 ?_
            refine k_as (y := nI (a0 + 4 * jj + 0)) (nI_add _ 0) ?_
            refine k_bald (v := F (a0 + 4 * jj + 0)) X 1 rfl (vp_in_nI (n := a0 + 4 * jj + 0) (by omega) (by omega)) (by rw [nI_clamp (n := a0 + 4 * jj + 0) (by omega)]) dX5_mix_46 ?_
            refine k_sipush (v := 255) X dX5_mix_47 (by decide) ?_
            refine k_iand X dX5_mix_50 ?_
            refine k_ior X dX5_mix_51 ?_
            refine k_iast (f' := upd (upd (upd (upd (upd V1 jj 0) jj (((0 : Int32) <<< (8 &&& 31)) ||| ((F (a0 + 4 * jj + 3)) &&& 255))) jj (((((0 : Int32) <<< (8 &&& 31)) ||| ((F (a0 + 4 * jj + 3)) &&& 255)) <<< (8 &&& 31)) ||| ((F (a0 + 4 * jj + 2)) &&& 255))) jj (((((((0 : Int32) <<< (8 &&& 31)) ||| ((F (a0 + 4 * jj + 3)) &&& 255)) <<< (8 &&& 31)) ||| ((F (a0 + 4 * jj + 2)) &&& 255)) <<< (8 &&& 31)) ||| ((F (a0 + 4 * jj + 1)) &&& 255))) jj (((((((((0 : Int32) <<< (8 &&& 31)) ||| ((F (a0 + 4 * jj + 3)) &&& 255)) <<< (8 &&& 31)) ||| ((F (a0 + 4 * jj + 2)) &&& 255)) <<< (8 &&& 31)) ||| ((F (a0 + 4 * jj + 1)) &&& 255)) <<< (8 &&& 31)) ||| ((F (a0 + 4 * jj + 0)) &&& 255))) (ws' := [(m0, .inr (5, [.ref yb, .ref yz, .ref ye, .int (nI dz), .int (nI sz), .int (nI wz), .int (nI bz), .int (nI uS), .int (nI uW), .ref ys, .ref yg, .int (nI mr), .int (nI ml), .int (nI mw), .int (nI ma), .ref yf, .ref yh, .ref yw, .ref yn, .ref yt, .ref yl, .int (nI tz)])), (yf, .inl (cB, 2112, .inl F)), (yw, .inl (cI, 16, .inl (upd (upd (upd (upd (upd V1 jj 0) jj (((0 : Int32) <<< (8 &&& 31)) ||| ((F (a0 + 4 * jj + 3)) &&& 255))) jj (((((0 : Int32) <<< (8 &&& 31)) ||| ((F (a0 + 4 * jj + 3)) &&& 255)) <<< (8 &&& 31)) ||| ((F (a0 + 4 * jj + 2)) &&& 255))) jj (((((((0 : Int32) <<< (8 &&& 31)) ||| ((F (a0 + 4 * jj + 3)) &&& 255)) <<< (8 &&& 31)) ||| ((F (a0 + 4 * jj + 2)) &&& 255)) <<< (8 &&& 31)) ||| ((F (a0 + 4 * jj + 1)) &&& 255))) jj (((((((((0 : Int32) <<< (8 &&& 31)) ||| ((F (a0 + 4 * jj + 3)) &&& 255)) <<< (8 &&& 31)) ||| ((F (a0 + 4 * jj + 2)) &&& 255)) <<< (8 &&& 31)) ||| ((F (a0 + 4 * jj + 1)) &&& 255)) <<< (8 &&& 31)) ||| ((F (a0 + 4 * jj + 0)) &&& 255))))), (yh, .inl (cI, 4, .inl H)), (yn, .inl (cI, 64, .inl KN)), (yt, .inl (cI, 16, .inl KT))]) X 2 rfl (vp_in_nI (n := jj) (by omega) (by omega)) (by rw [nI_clamp (n := jj) (by omega)]) rfl dX5_mix_52 ?_
            refine k_iinc (v := -1) (lv' := [(3, .int (-1)), (0, .ref m0), (1, .int (nI a0)), (2, .int (nI jj))]) X dX5_mix_53 0 rfl (by decide) (by decide) rfl ?_
            refine k_goto (tgt := 17) X dX5_mix_56 (by decide) ?_
            refine k_iload_n X dX5_mix_17 rfl 0 rfl ?_
            refine k_if_lt (tgt := 59) (xi := (-1 : Int)) X (by decide) dX5_mix_18 (by decide) (fun c_18 => ?_) (fun c_18 => ?_)
            · refine k_iinc (v := nI (jj + 1)) (lv' := [(2, .int (nI (jj + 1))), (3, .int (-1)), (0, .ref m0), (1, .int (nI a0))]) X dX5_mix_59 3 rfl (nI_1 _) (by decide) rfl ?_
              refine k_goto (tgt := 2) X dX5_mix_62 (by decide) ?_
              refine k_lv (lv' := [(0, .ref m0), (1, .int (nI a0)), (2, .int (nI (jj + 1)))]) [2, 3, 0] rfl ?_
              refine k_sub (ws' := [(m0, .inr (5, [.ref yb, .ref yz, .ref ye, .int (nI dz), .int (nI sz), .int (nI wz), .int (nI bz), .int (nI uS), .int (nI uW), .ref ys, .ref yg, .int (nI mr), .int (nI ml), .int (nI mw), .int (nI ma), .ref yf, .ref yh, .ref yw, .ref yn, .ref yt, .ref yl, .int (nI tz)])), (yf, .inl (cB, 2112, .inl F)), (yw, .inl (cI, 16, .inl (upd (upd (upd (upd (upd V1 jj 0) jj (((0 : Int32) <<< (8 &&& 31)) ||| ((F (a0 + 4 * jj + 3)) &&& 255))) jj (((((0 : Int32) <<< (8 &&& 31)) ||| ((F (a0 + 4 * jj + 3)) &&& 255)) <<< (8 &&& 31)) ||| ((F (a0 + 4 * jj + 2)) &&& 255))) jj (((((((0 : Int32) <<< (8 &&& 31)) ||| ((F (a0 + 4 * jj + 3)) &&& 255)) <<< (8 &&& 31)) ||| ((F (a0 + 4 * jj + 2)) &&& 255)) <<< (8 &&& 31)) ||| ((F (a0 + 4 * jj + 1)) &&& 255))) jj (((((((((0 : Int32) <<< (8 &&& 31)) ||| ((F (a0 + 4 * jj + 3)) &&& 255)) <<< (8 &&& 31)) ||| ((F (a0 + 4 * jj + 2)) &&& 255)) <<< (8 &&& 31)) ||| ((F (a0 + 4 * jj + 1)) &&& 255)) <<< (8 &&& 31)) ||| ((F (a0 + 4 * jj + 0)) &&& 255))))), (yh, .inl (cI, 4, .inl H)), (yn, .inl (cI, 64, .inl KN)), (yt, .inl (cI, 16, .inl KT))]) [0, 1, 2, 3, 4, 5] (by decide) rfl rfl ?_
              refine k_wide (k := 0) (n := 0) (by (try dsimp only); omega) (by (try dsimp only); omega) ?_
              exact ih (jj + 1) (upd (upd (upd (upd (upd V1 jj 0) jj (((0 : Int32) <<< (8 &&& 31)) ||| ((F (a0 + 4 * jj + 3)) &&& 255))) jj (((((0 : Int32) <<< (8 &&& 31)) ||| ((F (a0 + 4 * jj + 3)) &&& 255)) <<< (8 &&& 31)) ||| ((F (a0 + 4 * jj + 2)) &&& 255))) jj (((((((0 : Int32) <<< (8 &&& 31)) ||| ((F (a0 + 4 * jj + 3)) &&& 255)) <<< (8 &&& 31)) ||| ((F (a0 + 4 * jj + 2)) &&& 255)) <<< (8 &&& 31)) ||| ((F (a0 + 4 * jj + 1)) &&& 255))) jj (((((((((0 : Int32) <<< (8 &&& 31)) ||| ((F (a0 + 4 * jj + 3)) &&& 255)) <<< (8 &&& 31)) ||| ((F (a0 + 4 * jj + 2)) &&& 255)) <<< (8 &&& 31)) ||| ((F (a0 + 4 * jj + 1)) &&& 255)) <<< (8 &&& 31)) ||| ((F (a0 + 4 * jj + 0)) &&& 255))) (⟨by omega, lt_s (fun j hj => by rw [pk_un (by omega), pk_un (by omega), pk_un (by omega), pk_un (by omega), pk_un (by omega)]; exact hI.2 j hj) (by rw [pk_us]; rfl)⟩) (by omega)
            · exact absurd c_18 (by decide)
set_option maxHeartbeats 4000000 in
set_option maxRecDepth 100000 in
theorem m_digestByte (l : Launch) (D : va_G) (cI cB : ClassId) (m0 : Nat) (yb : Nat) (yz : Nat) (ye : Nat) (ys : Nat) (yg : Nat) (yf : Nat) (yh : Nat) (yw : Nat) (yn : Nat) (yt : Nat) (yl : Nat) (dz : Nat) (sz : Nat) (wz : Nat) (bz : Nat) (uS : Nat) (uW : Nat) (mr : Nat) (ml : Nat) (mw : Nat) (ma : Nat) (tz : Nat) (H : Nat → Int32) (k : Nat) (hk : k < 16) : kC l yX5_digestByte cX5_digestByte 2 (some .int) 0 0 (0) (0) D cI cB [.ref m0, .int (nI k)] [(m0, .inr (5, [.ref yb, .ref yz, .ref ye, .int (nI dz), .int (nI sz), .int (nI wz), .int (nI bz), .int (nI uS), .int (nI uW), .ref ys, .ref yg, .int (nI mr), .int (nI ml), .int (nI mw), .int (nI ma), .ref yf, .ref yh, .ref yw, .ref yn, .ref yt, .ref yl, .int (nI tz)])), (yh, .inl (cI, 4, .inl H))] (fun (vV : Option Value) (uU : va_W) => vV = some (.int (dByte H k)) ∧ uU = [(m0, .inr (5, [.ref yb, .ref yz, .ref ye, .int (nI dz), .int (nI sz), .int (nI wz), .int (nI bz), .int (nI uS), .int (nI uW), .ref ys, .ref yg, .int (nI mr), .int (nI ml), .int (nI mw), .int (nI ma), .ref yf, .ref yh, .ref yw, .ref yn, .ref yt, .ref yl, .int (nI tz)])), (yh, .inl (cI, 4, .inl H))]) := by
  refine k_entry (lv0 := [(0, .ref m0), (1, .int (nI k))]) (by decide) (Nat.le_of_ble_eq_true rfl) rfl ?_
  intro zp ze zs zm zb zt zc zA X hr hin
  refine k_aload_n X dX5_digestByte_0 rfl 0 rfl ?_
  refine k_get (v := .ref yh) X 0 5 16 rfl rfl (by decide) fl_X5_42 in_X5 rfl rfl dX5_digestByte_1 ?_
  refine k_iload_n X dX5_digestByte_4 rfl 1 rfl ?_
  refine k_iconst (v := 4) X dX5_digestByte_5 (by decide) ?_
  refine k_idiv X dX5_digestByte_6 (by decide) ?_
  refine k_as (y := nI (k / 4)) (pk_div (a := k) (d := 4) (by omega) (by omega) (by omega)) ?_
  refine k_iald (v := H (k / 4)) X 1 rfl (vp_in_nI (n := k / 4) (by omega) (by omega)) (by rw [nI_clamp (n := k / 4) (by omega)]) dX5_digestByte_7 ?_
  refine k_bipush (v := 8) X dX5_digestByte_8 (by decide) ?_
  refine k_iload_n X dX5_digestByte_10 rfl 1 rfl ?_
  refine k_iconst (v := 4) X dX5_digestByte_11 (by decide) ?_
  refine k_irem X dX5_digestByte_12 (by decide) ?_
  refine k_as (y := nI (k % 4)) (n_rem (d := 4) (by omega) (by omega) (by omega)) ?_
  refine k_imul X dX5_digestByte_13 ?_
  refine k_as (y := nI (8 * (k % 4))) (n_mul 8 _) ?_
  refine k_iushr (v := ((H (k / 4)).toUInt32 >>> ((nI (8 * (k % 4))).toUInt32 &&& Int32.toUInt32 31)).toInt32) X dX5_digestByte_14 rfl ?_
  refine k_sipush (v := 255) X dX5_digestByte_15 (by decide) ?_
  refine k_iand X dX5_digestByte_18 ?_
  refine k_as (y := dByte H k) (rfl) ?_
  exact k_iret (u := [(m0, .inr (5, [.ref yb, .ref yz, .ref ye, .int (nI dz), .int (nI sz), .int (nI wz), .int (nI bz), .int (nI uS), .int (nI uW), .ref ys, .ref yg, .int (nI mr), .int (nI ml), .int (nI mw), .int (nI ma), .ref yf, .ref yh, .ref yw, .ref yn, .ref yt, .ref yl, .int (nI tz)])), (yh, .inl (cI, 4, .inl H))]) X hr [0, 1] (by decide) rfl rfl (⟨rfl, rfl⟩) (by (try dsimp only); omega) (by (try dsimp only); omega) dX5_digestByte_19
