/-! MD5, as the class has it -/
def mF (r : Nat) (b c d : Int32) : Int32 := match r with
  | 0 => (b &&& c) ||| ((b ^^^ (-1)) &&& d)
  | 1 => (b &&& d) ||| (c &&& (d ^^^ (-1)))
  | 2 => (b ^^^ c) ^^^ d
  | _ => c ^^^ (b ||| (d ^^^ (-1)))
def mG (r i : Nat) : Nat := match r with
  | 0 => i % 16
  | 1 => (5 * i + 1) % 16
  | 2 => (3 * i + 5) % 16
  | _ => (7 * i) % 16
theorem mG_lt (r i : Nat) : mG r i < 16 := by
  unfold mG
  split <;> omega
def mR (x t : Int32) : Int32 := (x <<< (t &&& 31)) ||| (x.toUInt32 >>> ((32 - t).toUInt32 &&& Int32.toUInt32 31)).toInt32
abbrev m4 : Type := Int32 × Int32 × Int32 × Int32
def mStep (w : Nat → Int32) (i : Nat) (q : m4) : m4 := (q.2.2.2, q.2.1 + mR (q.1 + mF (i / 16) q.2.1 q.2.2.1 q.2.2.2 + kSin i + w (mG (i / 16) i)) (kTrn (4 * (i / 16) + i % 4)), q.2.1, q.2.2.1)
def mRun (w : Nat → Int32) (q : m4) : Nat → m4
  | 0 => q
  | n + 1 => mStep w n (mRun w q n)
def mQ (w h : Nat → Int32) (i : Nat) : m4 := mRun w (h 0, h 1, h 2, h 3) i
def mMix (w h : Nat → Int32) : Nat → Int32 := upd (upd (upd (upd h 0 (h 0 + (mQ w h 64).1)) 1 (h 1 + (mQ w h 64).2.1)) 2 (h 2 + (mQ w h 64).2.2.1)) 3 (h 3 + (mQ w h 64).2.2.2)
theorem mQ_congr {w w' h h' : Nat → Int32} (hw : ∀ j, j < 16 → w j = w' j) (hh : ∀ j, j < 4 → h j = h' j) : ∀ i, mQ w h i = mQ w' h' i := by
  intro i
  induction i with
  | zero => show (h 0, h 1, h 2, h 3) = (h' 0, h' 1, h' 2, h' 3); rw [hh 0 (by omega), hh 1 (by omega), hh 2 (by omega), hh 3 (by omega)]
  | succ n ih =>
    show mStep w n (mQ w h n) = mStep w' n (mQ w' h' n)
    rw [ih]
    unfold mStep
    rw [hw _ (mG_lt _ _)]
theorem mMix_at (w h : Nat → Int32) : mMix w h 0 = h 0 + (mQ w h 64).1 ∧ mMix w h 1 = h 1 + (mQ w h 64).2.1 ∧ mMix w h 2 = h 2 + (mQ w h 64).2.2.1 ∧ mMix w h 3 = h 3 + (mQ w h 64).2.2.2 := by
  unfold mMix
  generalize mQ w h 64 = q
  refine ⟨?_, ?_, ?_, ?_⟩
  · rw [pk_un (by decide), pk_un (by decide), pk_un (by decide), pk_us]
  · rw [pk_un (by decide), pk_un (by decide), pk_us]
  · rw [pk_un (by decide), pk_us]
  · rw [pk_us]
theorem mMix_congr {w w' h h' : Nat → Int32} (hw : ∀ j, j < 16 → w j = w' j) (hh : ∀ j, j < 4 → h j = h' j) : ∀ j, j < 4 → mMix w h j = mMix w' h' j := by
  intro j hj
  obtain ⟨a0, a1, a2, a3⟩ := mMix_at w h
  obtain ⟨b0, b1, b2, b3⟩ := mMix_at w' h'
  rw [mQ_congr hw hh] at a0 a1 a2 a3
  rcases (show j = 0 ∨ j = 1 ∨ j = 2 ∨ j = 3 by omega) with rfl | rfl | rfl | rfl
  · rw [a0, b0, hh 0 (by omega)]
  · rw [a1, b1, hh 1 (by omega)]
  · rw [a2, b2, hh 2 (by omega)]
  · rw [a3, b3, hh 3 (by omega)]
/-- the bytes with the mark behind them -/
def pb (f : Nat → Int32) (x n t : Nat) : Int32 := if t < n then f (x + t) else if t = n then 128 else 0
/-- the words out of the first i bytes -/
def mWp (g : Nat → Int32) : Nat → Nat → Int32
  | 0, _ => 0
  | i + 1, j => if j = i / 4 then mWp g i j ||| (g i <<< (nI (8 * (i % 4)) &&& 31)) else mWp g i j
theorem or_shl0 (a s : Int32) : a ||| ((0 : Int32) <<< s) = a := by
  have h : (0 : Int32) <<< s = 0 := by
    apply Int32.toBitVec_inj.mp
    simp
  rw [h]
  apply Int32.toBitVec_inj.mp
  simp
theorem mWp_zero {g : Nat → Int32} {m : Nat} : ∀ d, (∀ t, m ≤ t → t < m + d → g t = 0) → ∀ j, mWp g (m + d) j = mWp g m j := by
  intro d
  induction d with
  | zero => intro _ j; rfl
  | succ d ih =>
    intro h j
    show (if j = (m + d) / 4 then mWp g (m + d) j ||| (g (m + d) <<< (nI (8 * ((m + d) % 4)) &&& 31)) else mWp g (m + d) j) = _
    rw [h (m + d) (by omega) (by omega), or_shl0, ih (fun t h1 h2 => h t h1 (by omega)) j]
    split <;> rfl
theorem mWp_64 {g : Nat → Int32} {m : Nat} (hm : m ≤ 64) (h : ∀ t, m ≤ t → t < 64 → g t = 0) (j : Nat) : mWp g 64 j = mWp g m j := by
  have := mWp_zero (g := g) (m := m) (64 - m) (fun t h1 h2 => h t h1 (by omega)) j
  rw [show m + (64 - m) = 64 by omega] at this
  exact this
def mCh (f : Nat → Int32) (x n c : Nat) (j : Nat) : Int32 := if c = (n + 8) / 64 ∧ j = 14 then nI (8 * n) else if c = (n + 8) / 64 ∧ j = 15 then 0 else mWp (fun t => pb f x n (64 * c + t)) 64 j
def mIni : Nat → Int32 := upd (upd (upd (upd (fun _ => 0) 0 1732584193) 1 (-271733879)) 2 (-1732584194)) 3 271733878
def mSt (f : Nat → Int32) (x n : Nat) : Nat → Nat → Int32
  | 0 => mIni
  | c + 1 => mMix (mCh f x n c) (mSt f x n c)
def mDig (f : Nat → Int32) (x n : Nat) : Nat → Int32 := mSt f x n ((n + 8) / 64 + 1)
theorem mIni_eq (h : Nat → Int32) : ∀ j, j < 4 → upd (upd (upd (upd h 0 1732584193) 1 (-271733879)) 2 (-1732584194)) 3 271733878 j = mIni j := by
  intro j hj
  unfold mIni
  rcases (show j = 0 ∨ j = 1 ∨ j = 2 ∨ j = 3 by omega) with rfl | rfl | rfl | rfl <;> rfl
theorem mW_step {g gg : Nat → Int32} {i : Nat} {v : Int32} (hi : i < 64) (hv : gg i = v) (h : ∀ j, j < 16 → g j = mWp gg i j) : ∀ j, j < 16 → upd g (i / 4) (g (i / 4) ||| (v <<< (nI (8 * (i % 4)) &&& 31))) j = mWp gg (i + 1) j := by
  intro j hj
  show _ = (if j = i / 4 then mWp gg i j ||| (gg i <<< (nI (8 * (i % 4)) &&& 31)) else mWp gg i j)
  by_cases e : j = i / 4
  · rw [if_pos e, e, pk_us, h (i / 4) (by omega), hv]
  · rw [if_neg e, pk_un e, h j hj]
theorem mCh_mid {f w2 : Nat → Int32} {x m c : Nat} (hc : ¬ c = (m + 8) / 64) (h : ∀ j, j < 16 → w2 j = mWp (fun t => pb f x m (64 * c + t)) 64 j) : ∀ j, j < 16 → w2 j = mCh f x m c j := by
  intro j hj
  rw [h j hj, mCh, if_neg (fun z => hc z.1), if_neg (fun z => hc z.1)]
theorem mCh_last {f w2 : Nat → Int32} {x m c : Nat} (hc : c = (m + 8) / 64) (h : ∀ j, j < 16 → w2 j = mWp (fun t => pb f x m (64 * c + t)) 64 j) : ∀ j, j < 16 → upd (upd w2 14 (nI (8 * m))) 15 0 j = mCh f x m c j := by
  intro j hj
  by_cases e15 : j = 15
  · rw [e15, pk_us, mCh, if_neg (by omega), if_pos ⟨hc, rfl⟩]
  · rw [pk_un e15]
    by_cases e14 : j = 14
    · rw [e14, pk_us, mCh, if_pos ⟨hc, rfl⟩]
    · rw [pk_un e14, h j hj, mCh, if_neg (by omega), if_neg (by omega)]
theorem sh3 {m : Nat} (h : m ≤ 2000) : nI m <<< ((3 : Int32) &&& 31) = nI (8 * m) := by
  rw [pk_shlN _ 3 (by decide) (by omega)]
  congr 1
  omega
theorem sh29 {m : Nat} (h : m ≤ 2000) : ((nI m).toUInt32 >>> (Int32.toUInt32 29 &&& Int32.toUInt32 31)).toInt32 = 0 := by
  rw [pk_ushrN (by omega) 29 29 (by decide), show m / 2 ^ 29 = 0 by omega]
  rfl
def dByte (h : Nat → Int32) (k : Nat) : Int32 := ((h (k / 4)).toUInt32 >>> ((nI (8 * (k % 4))).toUInt32 &&& Int32.toUInt32 31)).toInt32 &&& 255
theorem n_shr {n : Nat} (h : n < 2 ^ 31) (k : Nat) {s : Int32} (hs : (s.toBitVec.smod 32).toNat = k) : nI n >>> s = nI (n / 2 ^ k) := pk_shrN h s k hs
theorem n_and {n : Nat} (h : n < 2 ^ 31) (k : Nat) {m : Int32} (hm : m.toBitVec.toNat = 2 ^ k - 1) : nI n &&& m = nI (n % 2 ^ k) := pk_andN (by omega) k hm
theorem n_mul (a b : Nat) : nI a * nI b = nI (a * b) := pk_mul a b
set_option maxHeartbeats 4000000 in
set_option maxRecDepth 100000 in
theorem c_fill (l : Launch) (D : va_G) (cI cB : ClassId) (a : Nat) (n : Nat) (f : Nat → Int32) (x : Int32) (hn : n ≤ 100000) : kC l yJ7_fill_53178 cJ7_fill_53178 4 none 0 0 (0) (0) D cI cB [.ref a, .int x] [(a, .inl (cI, n, .inl f))] (fun (vV : Option Value) (uU : va_W) => ∃ (g : Nat → Int32), vV = none ∧ uU = [(a, .inl (cI, n, .inl g))] ∧ (∀ j, j < n → g j = x)) := by
  refine k_entry (lv0 := [(0, .ref a), (1, .int x)]) (by decide) (Nat.le_of_ble_eq_true rfl) rfl ?_
  intro zp ze zs zm zb zt zc zA X hr hin
  refine k_iconst (v := 0) X dJ7_fill_53178_0 (by decide) ?_
  refine k_istore_n (lv' := [(2, .int 0), (0, .ref a), (1, .int x)]) X dJ7_fill_53178_1 rfl (by decide) rfl ?_
  refine k_aload_n X dJ7_fill_53178_2 rfl 1 rfl ?_
  refine k_alenI (v := nI n) X 0 rfl rfl dJ7_fill_53178_3 ?_
  refine k_istore_n (lv' := [(3, .int (nI n)), (2, .int 0), (0, .ref a), (1, .int x)]) X dJ7_fill_53178_4 rfl (by decide) rfl ?_
  refine k_lv (lv' := [(0, .ref a), (1, .int x), (2, .int (nI 0)), (3, .int (nI n))]) [2, 3, 1, 0] rfl ?_
  refine k_sub (ws' := [(a, .inl (cI, n, .inl f))]) [0] (by decide) rfl rfl ?_
  refine k_wide (k := 0) (n := 0) (by (try dsimp only); omega) (by (try dsimp only); omega) ?_
  refine k_loop2 (pc1 := 5) (cl := fun (i : Nat) (g : Nat → Int32) => 0) (sl := fun (i : Nat) (g : Nat → Int32) => 0) (wsf := fun (i : Nat) (g : Nat → Int32) => [(a, .inl (cI, n, .inl g))]) (lvf := fun (i : Nat) (g : Nat → Int32) => [(0, .ref a), (1, .int x), (2, .int (nI i)), (3, .int (nI n))]) (stf := fun (i : Nat) (g : Nat → Int32) => []) (I := fun (i : Nat) (g : Nat → Int32) => i ≤ n ∧ ∀ j, j < i → g j = x) (mu := fun (i : Nat) (g : Nat → Int32) => n - i) ?_ 0 f (⟨Nat.zero_le _, fun j h => absurd h (Nat.not_lt_zero j)⟩)
  intro i g hI ih
  try dsimp only at hI ih
  try dsimp only
  have hi := hI.1
  refine k_iload_n X dJ7_fill_53178_5 rfl 2 rfl ?_
  refine k_iload_n X dJ7_fill_53178_6 rfl 3 rfl ?_
  refine k_icmp_ge (tgt := 20) (xi := ((i : Nat) : Int)) (yi := ((n : Nat) : Int)) X (nI_toInt (by omega)) (nI_toInt (by omega)) dJ7_fill_53178_7 (by decide) (fun c_7 => ?_) (fun c_7 => ?_)
  · exact k_vret (u := [(a, .inl (cI, n, .inl g))]) X hr [0] (by decide) rfl rfl (⟨g, rfl, rfl, fun j hj => hI.2 j (by omega)⟩) (by (try dsimp only); omega) (by (try dsimp only); omega) dJ7_fill_53178_20
  · refine k_aload_n X dJ7_fill_53178_10 rfl 0 rfl ?_
    refine k_iload_n X dJ7_fill_53178_11 rfl 2 rfl ?_
    refine k_iload_n X dJ7_fill_53178_12 rfl 1 rfl ?_
    refine k_iast (f' := upd g i x) (ws' := [(a, .inl (cI, n, .inl (upd g i x)))]) X 0 rfl (vp_in_nI (n := i) (by omega) (by omega)) (by rw [nI_clamp (n := i) (by omega)]) rfl dJ7_fill_53178_13 ?_
    refine k_iinc (v := nI (i + 1)) (lv' := [(2, .int (nI (i + 1))), (0, .ref a), (1, .int x), (3, .int (nI n))]) X dJ7_fill_53178_14 2 rfl (nI_1 _) (by decide) rfl ?_
    refine k_goto (tgt := 5) X dJ7_fill_53178_17 (by decide) ?_
    refine k_lv (lv' := [(0, .ref a), (1, .int x), (2, .int (nI (i + 1))), (3, .int (nI n))]) [1, 2, 0, 3] rfl ?_
    refine k_sub (ws' := [(a, .inl (cI, n, .inl (upd g i x)))]) [0] (by decide) rfl rfl ?_
    refine k_wide (k := 0) (n := 0) (by (try dsimp only); omega) (by (try dsimp only); omega) ?_
    exact ih (i + 1) (upd g i x) (⟨by omega, lt_s (fun j hj => by rw [pk_un (by omega)]; exact hI.2 j hj) pk_us⟩) (by omega)
set_option maxHeartbeats 4000000 in
set_option maxRecDepth 100000 in
theorem c_Md5 (l : Launch) (D : va_G) (cI cB : ClassId) (o : Nat)  : kC l yX0_init cX0_init 1 none 1 12 (2) (20) D cI cB [.ref o] [(o, .inr (0, [.null, .null]))] (fun (vV : Option Value) (uU : va_W) => ∃ (aw : Nat) (ah : Nat), vV = none ∧ uU = [(o, .inr (0, [.ref aw, .ref ah])), (aw, .inl (cI, 16, .inl (fun _ => 0))), (ah, .inl (cI, 4, .inl (fun _ => 0)))]) := by
  refine k_entry (lv0 := [(0, .ref o)]) (by decide) (Nat.le_of_ble_eq_true rfl) rfl ?_
  intro zp ze zs zm zb zt zc zA X hr hin
  refine k_aload_n X dX0_init_0 rfl 0 rfl ?_
  refine k_objInit X ml_X0_3 im_objInit co_objInit (Nat.le_of_ble_eq_true rfl) (Nat.le_of_ble_eq_true rfl) dX0_init_1 ?_
  refine k_aload_n X dX0_init_4 rfl 0 rfl ?_
  refine k_bipush (v := 16) X dX0_init_5 (by decide) ?_
  refine k_newI X 16 (rfl) (by omega) ac_int (by (try dsimp only); omega) (by (try dsimp only); omega) dX0_init_7 (fun q_1 => ?_)
  refine k_ws (ws' := [(o, .inr (0, [.null, .null])), (q_1, .inl (cI, 16, .inl (fun _ => 0)))]) rfl ?_
  refine k_putF (v := .ref q_1) (ty := .array .int) (ws' := [(o, .inr (0, [.ref q_1, .null])), (q_1, .inl (cI, 16, .inl (fun _ => 0)))]) X 0 0 0 tyX0 tyX0_ok nmX0 rfl rfl (by decide) fl_X0_9 in_X0 rfl rfl hin rfl (by decide +kernel) rfl rfl (Nat.le_of_ble_eq_true rfl) rfl dX0_init_9 ?_
  refine k_aload_n X dX0_init_12 rfl 0 rfl ?_
  refine k_iconst (v := 4) X dX0_init_13 (by decide) ?_
  refine k_newI X 4 (rfl) (by omega) ac_int (by (try dsimp only); omega) (by (try dsimp only); omega) dX0_init_14 (fun q_2 => ?_)
  refine k_ws (ws' := [(o, .inr (0, [.ref q_1, .null])), (q_1, .inl (cI, 16, .inl (fun _ => 0))), (q_2, .inl (cI, 4, .inl (fun _ => 0)))]) rfl ?_
  refine k_putF (v := .ref q_2) (ty := .array .int) (ws' := [(o, .inr (0, [.ref q_1, .ref q_2])), (q_1, .inl (cI, 16, .inl (fun _ => 0))), (q_2, .inl (cI, 4, .inl (fun _ => 0)))]) X 0 0 1 tyX0 tyX0_ok nmX0 rfl rfl (by decide) fl_X0_15 in_X0 rfl rfl hin rfl (by decide +kernel) rfl rfl (Nat.le_of_ble_eq_true rfl) rfl dX0_init_16 ?_
  exact k_vret (u := [(o, .inr (0, [.ref q_1, .ref q_2])), (q_1, .inl (cI, 16, .inl (fun _ => 0))), (q_2, .inl (cI, 4, .inl (fun _ => 0)))]) X hr [0, 1, 2] (by decide) rfl rfl (⟨q_1, q_2, rfl, rfl⟩) (by (try dsimp only); omega) (by (try dsimp only); omega) dX0_init_19
set_option maxHeartbeats 4000000 in
set_option maxRecDepth 100000 in
theorem c_mixed (l : Launch) (D : va_G) (cI cB : ClassId) (r : Nat) (b : Int32) (x : Int32) (d : Int32) (hr4 : r < 4) : kC l yX0_mixed cX0_mixed 4 (some .int) 0 0 (0) (0) D cI cB [.int (nI r), .int b, .int x, .int d] [] (fun (vV : Option Value) (uU : va_W) => vV = some (.int (mF r b x d)) ∧ uU = []) := by
  refine k_entry (lv0 := [(0, .int (nI r)), (1, .int b), (2, .int x), (3, .int d)]) (by decide) (Nat.le_of_ble_eq_true rfl) rfl ?_
  intro zp ze zs zm zb zt zc zA X hr hin
  rcases (show r = 0 ∨ r = 1 ∨ r = 2 ∨ r = 3 by omega) with rfl | rfl | rfl | rfl
  · refine k_iload_n X dX0_mixed_0 rfl 0 rfl ?_
    refine k_tableIn (off := 27) (tgt := 28) X dX0_mixed_1 (by decide) (by decide) (by decide) (by decide) ?_
    refine k_iload_n X dX0_mixed_28 rfl 1 rfl ?_
    refine k_iload_n X dX0_mixed_29 rfl 2 rfl ?_
    refine k_iand X dX0_mixed_30 ?_
    refine k_iload_n X dX0_mixed_31 rfl 1 rfl ?_
    refine k_iconst (v := -1) X dX0_mixed_32 (by decide) ?_
    refine k_ixor X dX0_mixed_33 ?_
    refine k_iload_n X dX0_mixed_34 rfl 3 rfl ?_
    refine k_iand X dX0_mixed_35 ?_
    refine k_ior X dX0_mixed_36 ?_
    exact k_iret (u := []) X hr [] (by decide) rfl rfl (⟨rfl, rfl⟩) (by (try dsimp only); omega) (by (try dsimp only); omega) dX0_mixed_37
  · refine k_iload_n X dX0_mixed_0 rfl 0 rfl ?_
    refine k_tableIn (off := 37) (tgt := 38) X dX0_mixed_1 (by decide) (by decide) (by decide) (by decide) ?_
    refine k_iload_n X dX0_mixed_38 rfl 1 rfl ?_
    refine k_iload_n X dX0_mixed_39 rfl 3 rfl ?_
    refine k_iand X dX0_mixed_40 ?_
    refine k_iload_n X dX0_mixed_41 rfl 2 rfl ?_
    refine k_iload_n X dX0_mixed_42 rfl 3 rfl ?_
    refine k_iconst (v := -1) X dX0_mixed_43 (by decide) ?_
    refine k_ixor X dX0_mixed_44 ?_
    refine k_iand X dX0_mixed_45 ?_
    refine k_ior X dX0_mixed_46 ?_
    exact k_iret (u := []) X hr [] (by decide) rfl rfl (⟨rfl, rfl⟩) (by (try dsimp only); omega) (by (try dsimp only); omega) dX0_mixed_47
  · refine k_iload_n X dX0_mixed_0 rfl 0 rfl ?_
    refine k_tableIn (off := 47) (tgt := 48) X dX0_mixed_1 (by decide) (by decide) (by decide) (by decide) ?_
    refine k_iload_n X dX0_mixed_48 rfl 1 rfl ?_
    refine k_iload_n X dX0_mixed_49 rfl 2 rfl ?_
    refine k_ixor X dX0_mixed_50 ?_
    refine k_iload_n X dX0_mixed_51 rfl 3 rfl ?_
    refine k_ixor X dX0_mixed_52 ?_
    exact k_iret (u := []) X hr [] (by decide) rfl rfl (⟨rfl, rfl⟩) (by (try dsimp only); omega) (by (try dsimp only); omega) dX0_mixed_53
  · refine k_iload_n X dX0_mixed_0 rfl 0 rfl ?_
    refine k_tableOut (tgt := 54) X dX0_mixed_1 (by decide) (by decide) ?_
    refine k_iload_n X dX0_mixed_54 rfl 2 rfl ?_
    refine k_iload_n X dX0_mixed_55 rfl 1 rfl ?_
    refine k_iload_n X dX0_mixed_56 rfl 3 rfl ?_
    refine k_iconst (v := -1) X dX0_mixed_57 (by decide) ?_
    refine k_ixor X dX0_mixed_58 ?_
    refine k_ior X dX0_mixed_59 ?_
    refine k_ixor X dX0_mixed_60 ?_
    exact k_iret (u := []) X hr [] (by decide) rfl rfl (⟨rfl, rfl⟩) (by (try dsimp only); omega) (by (try dsimp only); omega) dX0_mixed_61
set_option maxHeartbeats 4000000 in
set_option maxRecDepth 100000 in
theorem c_wordFor (l : Launch) (D : va_G) (cI cB : ClassId) (r : Nat) (i : Nat) (hr4 : r < 4) (hi : i < 64) : kC l yX0_wordFor cX0_wordFor 2 (some .int) 0 0 (0) (0) D cI cB [.int (nI r), .int (nI i)] [] (fun (vV : Option Value) (uU : va_W) => vV = some (.int (nI (mG r i))) ∧ uU = []) := by
  refine k_entry (lv0 := [(0, .int (nI r)), (1, .int (nI i))]) (by decide) (Nat.le_of_ble_eq_true rfl) rfl ?_
  intro zp ze zs zm zb zt zc zA X hr hin
  rcases (show r = 0 ∨ r = 1 ∨ r = 2 ∨ r = 3 by omega) with rfl | rfl | rfl | rfl
  · refine k_iload_n X dX0_wordFor_0 rfl 0 rfl ?_
    refine k_tableIn (off := 27) (tgt := 28) X dX0_wordFor_1 (by decide) (by decide) (by decide) (by decide) ?_
    refine k_iload_n X dX0_wordFor_28 rfl 1 rfl ?_
    refine k_bipush (v := 15) X dX0_wordFor_29 (by decide) ?_
    refine k_iand X dX0_wordFor_31 ?_
    refine k_as (y := nI (i % 16)) (n_and (by omega) 4 (by decide)) ?_
    exact k_iret (u := []) X hr [] (by decide) rfl rfl (⟨rfl, rfl⟩) (by (try dsimp only); omega) (by (try dsimp only); omega) dX0_wordFor_32
  · refine k_iload_n X dX0_wordFor_0 rfl 0 rfl ?_
    refine k_tableIn (off := 32) (tgt := 33) X dX0_wordFor_1 (by decide) (by decide) (by decide) (by decide) ?_
    refine k_iconst (v := 5) X dX0_wordFor_33 (by decide) ?_
    refine k_iload_n X dX0_wordFor_34 rfl 1 rfl ?_
    refine k_imul X dX0_wordFor_35 ?_
    refine k_as (y := nI (5 * i)) (n_mul 5 i) ?_
    refine k_iconst (v := 1) X dX0_wordFor_36 (by decide) ?_
    refine k_iadd X dX0_wordFor_37 ?_
    refine k_as (y := nI (5 * i + 1)) (nI_1 _) ?_
    refine k_bipush (v := 15) X dX0_wordFor_38 (by decide) ?_
    refine k_iand X dX0_wordFor_40 ?_
    refine k_as (y := nI ((5 * i + 1) % 16)) (n_and (by omega) 4 (by decide)) ?_
    exact k_iret (u := []) X hr [] (by decide) rfl rfl (⟨rfl, rfl⟩) (by (try dsimp only); omega) (by (try dsimp only); omega) dX0_wordFor_41
  · refine k_iload_n X dX0_wordFor_0 rfl 0 rfl ?_
    refine k_tableIn (off := 41) (tgt := 42) X dX0_wordFor_1 (by decide) (by decide) (by decide) (by decide) ?_
    refine k_iconst (v := 3) X dX0_wordFor_42 (by decide) ?_
    refine k_iload_n X dX0_wordFor_43 rfl 1 rfl ?_
    refine k_imul X dX0_wordFor_44 ?_
    refine k_as (y := nI (3 * i)) (n_mul 3 i) ?_
    refine k_iconst (v := 5) X dX0_wordFor_45 (by decide) ?_
    refine k_iadd X dX0_wordFor_46 ?_
    refine k_as (y := nI (3 * i + 5)) (nI_add _ 5) ?_
    refine k_bipush (v := 15) X dX0_wordFor_47 (by decide) ?_
    refine k_iand X dX0_wordFor_49 ?_
    refine k_as (y := nI ((3 * i + 5) % 16)) (n_and (by omega) 4 (by decide)) ?_
    exact k_iret (u := []) X hr [] (by decide) rfl rfl (⟨rfl, rfl⟩) (by (try dsimp only); omega) (by (try dsimp only); omega) dX0_wordFor_50
  · refine k_iload_n X dX0_wordFor_0 rfl 0 rfl ?_
    refine k_tableOut (tgt := 51) X dX0_wordFor_1 (by decide) (by decide) ?_
    refine k_bipush (v := 7) X dX0_wordFor_51 (by decide) ?_
    refine k_iload_n X dX0_wordFor_53 rfl 1 rfl ?_
    refine k_imul X dX0_wordFor_54 ?_
    refine k_as (y := nI (7 * i)) (n_mul 7 i) ?_
    refine k_bipush (v := 15) X dX0_wordFor_55 (by decide) ?_
    refine k_iand X dX0_wordFor_57 ?_
    refine k_as (y := nI ((7 * i) % 16)) (n_and (by omega) 4 (by decide)) ?_
    exact k_iret (u := []) X hr [] (by decide) rfl rfl (⟨rfl, rfl⟩) (by (try dsimp only); omega) (by (try dsimp only); omega) dX0_wordFor_58
set_option maxHeartbeats 4000000 in
set_option maxRecDepth 100000 in
theorem c_mixWords (l : Launch) (D : va_G) (cI cB : ClassId) (o : Nat) (aw : Nat) (ah : Nat) (w : Nat → Int32) (h : Nat → Int32)  : kC l yX0_mixWords cX0_mixWords 9 none 1 23 (0) (0) D cI cB [.ref o] [(o, .inr (0, [.ref aw, .ref ah])), (aw, .inl (cI, 16, .inl w)), (ah, .inl (cI, 4, .inl h))] (fun (vV : Option Value) (uU : va_W) => vV = none ∧ uU = [(o, .inr (0, [.ref aw, .ref ah])), (aw, .inl (cI, 16, .inl w)), (ah, .inl (cI, 4, .inl (mMix w h)))]) := by
  refine k_entry (lv0 := [(0, .ref o)]) (by decide) (Nat.le_of_ble_eq_true rfl) rfl ?_
  intro zp ze zs zm zb zt zc zA X hr hin
  refine k_aload_n X dX0_mixWords_0 rfl 0 rfl ?_
  refine k_get (v := .ref ah) X 0 0 1 rfl rfl (by decide) fl_X0_15 in_X0 rfl rfl dX0_mixWords_1 ?_
  refine k_iconst (v := 0) X dX0_mixWords_4 (by decide) ?_
  refine k_iald (v := h 0) X 2 rfl (vp_in_nI (n := 0) (by omega) (by omega)) (by rw [show ((0 : Int32).toNatClampNeg) = 0 from rfl]) dX0_mixWords_5 ?_
  refine k_istore_n (lv' := [(1, .int (h 0)), (0, .ref o)]) X dX0_mixWords_6 rfl (by decide) rfl ?_
  refine k_aload_n X dX0_mixWords_7 rfl 1 rfl ?_
  refine k_get (v := .ref ah) X 0 0 1 rfl rfl (by decide) fl_X0_15 in_X0 rfl rfl dX0_mixWords_8 ?_
  refine k_iconst (v := 1) X dX0_mixWords_11 (by decide) ?_
  refine k_iald (v := h 1) X 2 rfl (vp_in_nI (n := 1) (by omega) (by omega)) (by rw [show ((1 : Int32).toNatClampNeg) = 1 from rfl]) dX0_mixWords_12 ?_
  refine k_istore_n (lv' := [(2, .int (h 1)), (1, .int (h 0)), (0, .ref o)]) X dX0_mixWords_13 rfl (by decide) rfl ?_
  refine k_aload_n X dX0_mixWords_14 rfl 2 rfl ?_
  refine k_get (v := .ref ah) X 0 0 1 rfl rfl (by decide) fl_X0_15 in_X0 rfl rfl dX0_mixWords_15 ?_
  refine k_iconst (v := 2) X dX0_mixWords_18 (by decide) ?_
  refine k_iald (v := h 2) X 2 rfl (vp_in_nI (n := 2) (by omega) (by omega)) (by rw [show ((2 : Int32).toNatClampNeg) = 2 from rfl]) dX0_mixWords_19 ?_
  refine k_istore_n (lv' := [(3, .int (h 2)), (2, .int (h 1)), (1, .int (h 0)), (0, .ref o)]) X dX0_mixWords_20 rfl (by decide) rfl ?_
  refine k_aload_n X dX0_mixWords_21 rfl 3 rfl ?_
  refine k_get (v := .ref ah) X 0 0 1 rfl rfl (by decide) fl_X0_15 in_X0 rfl rfl dX0_mixWords_22 ?_
  refine k_iconst (v := 3) X dX0_mixWords_25 (by decide) ?_
  refine k_iald (v := h 3) X 2 rfl (vp_in_nI (n := 3) (by omega) (by omega)) (by rw [show ((3 : Int32).toNatClampNeg) = 3 from rfl]) dX0_mixWords_26 ?_
  refine k_istore (lv' := [(4, .int (h 3)), (3, .int (h 2)), (2, .int (h 1)), (1, .int (h 0)), (0, .ref o)]) X dX0_mixWords_27 (by decide) rfl ?_
  refine k_iconst (v := 0) X dX0_mixWords_29 (by decide) ?_
  refine k_istore (lv' := [(5, .int 0), (4, .int (h 3)), (3, .int (h 2)), (2, .int (h 1)), (1, .int (h 0)), (0, .ref o)]) X dX0_mixWords_30 (by decide) rfl ?_
  refine k_lv (lv' := [(0, .ref o), (1, .int ((mQ w h 0).1)), (2, .int ((mQ w h 0).2.1)), (3, .int ((mQ w h 0).2.2.1)), (4, .int ((mQ w h 0).2.2.2)), (5, .int (nI 0))]) [5, 4, 3, 2, 1, 0] rfl ?_
  refine k_wide (k := 0) (n := 0) (by (try dsimp only); omega) (by (try dsimp only); omega) ?_
  refine k_loop1 (pc1 := 32) (cl := fun (i : Nat) => 0) (sl := fun (i : Nat) => 0) (wsf := fun (i : Nat) => [(o, .inr (0, [.ref aw, .ref ah])), (aw, .inl (cI, 16, .inl w)), (ah, .inl (cI, 4, .inl h))]) (lvf := fun (i : Nat) => [(0, .ref o), (1, .int ((mQ w h i).1)), (2, .int ((mQ w h i).2.1)), (3, .int ((mQ w h i).2.2.1)), (4, .int ((mQ w h i).2.2.2)), (5, .int (nI i))]) (stf := fun (i : Nat) => []) (I := fun (i : Nat) => i ≤ 64) (mu := fun (i : Nat) => 64 - i) ?_ 0 (Nat.zero_le _)
  intro i hI ih
  try dsimp only at hI ih
  try dsimp only
  refine k_iload X dX0_mixWords_32 5 rfl ?_
  refine k_bipush (v := 64) X dX0_mixWords_34 (by decide) ?_
  refine k_icmp_ge (tgt := 124) (xi := ((i : Nat) : Int)) (yi := (64 : Int)) X (nI_toInt (by omega)) (by decide) dX0_mixWords_36 (by decide) (fun c_36 => ?_) (fun c_36 => ?_)
  · obtain rfl : i = 64 := by omega
    refine k_aload_n X dX0_mixWords_124 rfl 0 rfl ?_
    refine k_get (v := .ref ah) X 0 0 1 rfl rfl (by decide) fl_X0_15 in_X0 rfl rfl dX0_mixWords_125 ?_
    refine k_iconst (v := 0) X dX0_mixWords_128 (by decide) ?_
    refine k_dup2 X dX0_mixWords_129 rfl rfl ?_
    refine k_iald (v := h 0) X 2 rfl (vp_in_nI (n := 0) (by omega) (by omega)) (by rw [show ((0 : Int32).toNatClampNeg) = 0 from rfl]) dX0_mixWords_130 ?_
    refine k_iload_n X dX0_mixWords_131 rfl 1 rfl ?_
    refine k_iadd X dX0_mixWords_132 ?_
    refine k_iast (f' := upd h 0 ((h 0) + ((mQ w h 64).1))) (ws' := [(o, .inr (0, [.ref aw, .ref ah])), (aw, .inl (cI, 16, .inl w)), (ah, .inl (cI, 4, .inl (upd h 0 ((h 0) + ((mQ w h 64).1)))))]) X 2 rfl (vp_in_nI (n := 0) (by omega) (by omega)) (by rw [show ((0 : Int32).toNatClampNeg) = 0 from rfl]) rfl dX0_mixWords_133 ?_
    refine k_aload_n X dX0_mixWords_134 rfl 0 rfl ?_
    refine k_get (v := .ref ah) X 0 0 1 rfl rfl (by decide) fl_X0_15 in_X0 rfl rfl dX0_mixWords_135 ?_
    refine k_iconst (v := 1) X dX0_mixWords_138 (by decide) ?_
    refine k_dup2 X dX0_mixWords_139 rfl rfl ?_
    refine k_iald (v := (upd h 0 ((h 0) + ((mQ w h 64).1))) 1) X 2 rfl (vp_in_nI (n := 1) (by omega) (by omega)) (by rw [show ((1 : Int32).toNatClampNeg) = 1 from rfl]) dX0_mixWords_140 ?_
    refine k_as (y := h 1) (pk_un (by decide)) ?_
    refine k_iload_n X dX0_mixWords_141 rfl 2 rfl ?_
    refine k_iadd X dX0_mixWords_142 ?_
    refine k_iast (f' := upd (upd h 0 ((h 0) + ((mQ w h 64).1))) 1 ((h 1) + ((mQ w h 64).2.1))) (ws' := [(o, .inr (0, [.ref aw, .ref ah])), (aw, .inl (cI, 16, .inl w)), (ah, .inl (cI, 4, .inl (upd (upd h 0 ((h 0) + ((mQ w h 64).1))) 1 ((h 1) + ((mQ w h 64).2.1)))))]) X 2 rfl (vp_in_nI (n := 1) (by omega) (by omega)) (by rw [show ((1 : Int32).toNatClampNeg) = 1 from rfl]) rfl dX0_mixWords_143 ?_
    refine k_aload_n X dX0_mixWords_144 rfl 0 rfl ?_
    refine k_get (v := .ref ah) X 0 0 1 rfl rfl (by decide) fl_X0_15 in_X0 rfl rfl dX0_mixWords_145 ?_
    refine k_iconst (v := 2) X dX0_mixWords_148 (by decide) ?_
    refine k_dup2 X dX0_mixWords_149 rfl rfl ?_
    refine k_iald (v := (upd (upd h 0 ((h 0) + ((mQ w h 64).1))) 1 ((h 1) + ((mQ w h 64).2.1))) 2) X 2 rfl (vp_in_nI (n := 2) (by omega) (by omega)) (by rw [show ((2 : Int32).toNatClampNeg) = 2 from rfl]) dX0_mixWords_150 ?_
    refine k_as (y := h 2) (by rw [pk_un (by decide), pk_un (by decide)]) ?_
    refine k_iload_n X dX0_mixWords_151 rfl 3 rfl ?_
    refine k_iadd X dX0_mixWords_152 ?_
    refine k_iast (f' := upd (upd (upd h 0 ((h 0) + ((mQ w h 64).1))) 1 ((h 1) + ((mQ w h 64).2.1))) 2 ((h 2) + ((mQ w h 64).2.2.1))) (ws' := [(o, .inr (0, [.ref aw, .ref ah])), (aw, .inl (cI, 16, .inl w)), (ah, .inl (cI, 4, .inl (upd (upd (upd h 0 ((h 0) + ((mQ w h 64).1))) 1 ((h 1) + ((mQ w h 64).2.1))) 2 ((h 2) + ((mQ w h 64).2.2.1)))))]) X 2 rfl (vp_in_nI (n := 2) (by omega) (by omega)) (by rw [show ((2 : Int32).toNatClampNeg) = 2 from rfl]) rfl dX0_mixWords_153 ?_
    refine k_aload_n X dX0_mixWords_154 rfl 0 rfl ?_
    refine k_get (v := .ref ah) X 0 0 1 rfl rfl (by decide) fl_X0_15 in_X0 rfl rfl dX0_mixWords_155 ?_
    refine k_iconst (v := 3) X dX0_mixWords_158 (by decide) ?_
    refine k_dup2 X dX0_mixWords_159 rfl rfl ?_
    refine k_iald (v := (upd (upd (upd h 0 ((h 0) + ((mQ w h 64).1))) 1 ((h 1) + ((mQ w h 64).2.1))) 2 ((h 2) + ((mQ w h 64).2.2.1))) 3) X 2 rfl (vp_in_nI (n := 3) (by omega) (by omega)) (by rw [show ((3 : Int32).toNatClampNeg) = 3 from rfl]) dX0_mixWords_160 ?_
    refine k_as (y := h 3) (by rw [pk_un (by decide), pk_un (by decide), pk_un (by decide)]) ?_
    refine k_iload X dX0_mixWords_161 4 rfl ?_
    refine k_iadd X dX0_mixWords_163 ?_
    refine k_iast (f' := upd (upd (upd (upd h 0 ((h 0) + ((mQ w h 64).1))) 1 ((h 1) + ((mQ w h 64).2.1))) 2 ((h 2) + ((mQ w h 64).2.2.1))) 3 ((h 3) + ((mQ w h 64).2.2.2))) (ws' := [(o, .inr (0, [.ref aw, .ref ah])), (aw, .inl (cI, 16, .inl w)), (ah, .inl (cI, 4, .inl (upd (upd (upd (upd h 0 ((h 0) + ((mQ w h 64).1))) 1 ((h 1) + ((mQ w h 64).2.1))) 2 ((h 2) + ((mQ w h 64).2.2.1))) 3 ((h 3) + ((mQ w h 64).2.2.2)))))]) X 2 rfl (vp_in_nI (n := 3) (by omega) (by omega)) (by rw [show ((3 : Int32).toNatClampNeg) = 3 from rfl]) rfl dX0_mixWords_164 ?_
    exact k_vret (u := [(o, .inr (0, [.ref aw, .ref ah])), (aw, .inl (cI, 16, .inl w)), (ah, .inl (cI, 4, .inl (upd (upd (upd (upd h 0 ((h 0) + ((mQ w h 64).1))) 1 ((h 1) + ((mQ w h 64).2.1))) 2 ((h 2) + ((mQ w h 64).2.2.1))) 3 ((h 3) + ((mQ w h 64).2.2.2)))))]) X hr [0, 1, 2] (by decide) rfl rfl (⟨rfl, rfl⟩) (by (try dsimp only); omega) (by (try dsimp only); omega) dX0_mixWords_165
  · refine k_iload X dX0_mixWords_39 5 rfl ?_
    refine k_iconst (v := 4) X dX0_mixWords_41 (by decide) ?_
    refine k_ishr X dX0_mixWords_42 ?_
    refine k_as (y := nI (i / 16)) (n_shr (by omega) 4 (by decide)) ?_
    refine k_istore (lv' := [(6, .int (nI (i / 16))), (0, .ref o), (1, .int ((mQ w h i).1)), (2, .int ((mQ w h i).2.1)), (3, .int ((mQ w h i).2.2.1)), (4, .int ((mQ w h i).2.2.2)), (5, .int (nI i))]) X dX0_mixWords_43 (by decide) rfl ?_
    refine k_iload_n X dX0_mixWords_45 rfl 2 rfl ?_
    refine k_iload X dX0_mixWords_46 0 rfl ?_
    refine k_iload_n X dX0_mixWords_48 rfl 3 rfl ?_
    refine k_iload_n X dX0_mixWords_49 rfl 4 rfl ?_
    refine k_iload X dX0_mixWords_50 5 rfl ?_
    refine k_callS (wc := []) (wr := [(o, .inr (0, [.ref aw, .ref ah])), (aw, .inl (cI, 16, .inl w)), (ah, .inl (cI, 4, .inl h))]) (As := [.int (nI (i / 16)), .int ((mQ w h i).2.1), .int ((mQ w h i).2.2.1), .int ((mQ w h i).2.2.2)]) (n := 4) (st := [.int ((mQ w h i).1)]) X (c_mixed l D cI cB (i / 16) ((mQ w h i).2.1) ((mQ w h i).2.2.1) ((mQ w h i).2.2.2) (by omega)) ml_X0_51 sm_X0_mixed ini_X0 co_X0_mixed (by decide +kernel) rfl ⟨Nat.le_of_ble_eq_true rfl, Nat.le_of_ble_eq_true rfl⟩ (⟨by (try dsimp only); omega, by (try dsimp only); omega⟩) (Nat.le_of_ble_eq_true rfl) [] [0, 1, 2] rfl rfl rfl (by decide) (by decide) (by decide) rfl dX0_mixWords_52 (fun v_52 u_52 hu_52 => ?_)
    obtain ⟨rfl, rfl⟩ := hu_52
    refine k_to (ws' := [(o, .inr (0, [.ref aw, .ref ah])), (aw, .inl (cI, 16, .inl w)), (ah, .inl (cI, 4, .inl h))]) (st' := [.int (mF (i / 16) ((mQ w h i).2.1) ((mQ w h i).2.2.1) ((mQ w h i).2.2.2)), .int ((mQ w h i).1)]) rfl rfl ?_
    refine k_iadd X dX0_mixWords_55 ?_
    refine k_gsin X fl_X0_55 dX0_mixWords_56 (fun t_56 ht_56 => ?_)
    refine k_iload X dX0_mixWords_59 6 rfl ?_
    refine k_tld (v := kSin i) X ht_56 (vp_in_nI (n := i) (by omega) (by omega)) (by rw [nI_clamp (n := i) (by omega)]) dX0_mixWords_61 ?_
    refine k_iadd X dX0_mixWords_62 ?_
    refine k_aload_n X dX0_mixWords_63 rfl 1 rfl ?_
    refine k_get (v := .ref aw) X 0 0 0 rfl rfl (by decide) fl_X0_9 in_X0 rfl rfl dX0_mixWords_64 ?_
    refine k_iload X dX0_mixWords_67 0 rfl ?_
    refine k_iload X dX0_mixWords_69 6 rfl ?_
    refine k_callS (wc := []) (wr := [(o, .inr (0, [.ref aw, .ref ah])), (aw, .inl (cI, 16, .inl w)), (ah, .inl (cI, 4, .inl h))]) (As := [.int (nI (i / 16)), .int (nI i)]) (n := 2) (st := [.ref aw, .int ((((mQ w h i).1) + (mF (i / 16) ((mQ w h i).2.1) ((mQ w h i).2.2.1) ((mQ w h i).2.2.2))) + (kSin i))]) X (c_wordFor l D cI cB (i / 16) i (by omega) (by omega)) ml_X0_58 sm_X0_wordFor ini_X0 co_X0_wordFor (by decide +kernel) rfl ⟨Nat.le_of_ble_eq_true rfl, Nat.le_of_ble_eq_true rfl⟩ (⟨by (try dsimp only); omega, by (try dsimp only); omega⟩) (Nat.le_of_ble_eq_true rfl) [] [0, 1, 2] rfl rfl rfl (by decide) (by decide) (by decide) rfl dX0_mixWords_71 (fun v_71 u_71 hu_71 => ?_)
    obtain ⟨rfl, rfl⟩ := hu_71
    refine k_to (ws' := [(o, .inr (0, [.ref aw, .ref ah])), (aw, .inl (cI, 16, .inl w)), (ah, .inl (cI, 4, .inl h))]) (st' := [.int (nI (mG (i / 16) i)), .ref aw, .int ((((mQ w h i).1) + (mF (i / 16) ((mQ w h i).2.1) ((mQ w h i).2.2.1) ((mQ w h i).2.2.2))) + (kSin i))]) rfl rfl ?_
    have hmG := mG_lt (i / 16) i
    refine k_iald (v := w (mG (i / 16) i)) X 1 rfl (vp_in_nI (n := mG (i / 16) i) (mG_lt _ _) (by decide)) (by rw [nI_clamp (n := mG (i / 16) i) (by omega)]) dX0_mixWords_74 ?_
    refine k_iadd X dX0_mixWords_75 ?_
    refine k_istore (lv' := [(7, .int (((((mQ w h i).1) + (mF (i / 16) ((mQ w h i).2.1) ((mQ w h i).2.2.1) ((mQ w h i).2.2.2))) + (kSin i)) + (w (mG (i / 16) i)))), (6, .int (nI (i / 16))), (0, .ref o), (1, .int ((mQ w h i).1)), (2, .int ((mQ w h i).2.1)), (3, .int ((mQ w h i).2.2.1)), (4, .int ((mQ w h i).2.2.2)), (5, .int (nI i))]) X dX0_mixWords_76 (by decide) rfl ?_
    refine k_gtrn X fl_X0_61 dX0_mixWords_78 (fun t_78 ht_78 => ?_)
    refine k_iconst (v := 4) X dX0_mixWords_81 (by decide) ?_
    refine k_iload X dX0_mixWords_82 1 rfl ?_
    refine k_imul X dX0_mixWords_84 ?_
    refine k_as (y := nI (4 * (i / 16))) (n_mul 4 _) ?_
    refine k_iload X dX0_mixWords_85 7 rfl ?_
    refine k_iconst (v := 3) X dX0_mixWords_87 (by decide) ?_
    refine k_iand X dX0_mixWords_88 ?_
    refine k_as (y := nI (i % 4)) (n_and (by omega) 2 (by decide)) ?_
    refine k_iadd X dX0_mixWords_89 ?_
    refine k_as (y := nI (4 * (i / 16) + i % 4)) (nI_add _ _) ?_
    refine k_tld (v := kTrn (4 * (i / 16) + i % 4)) X ht_78 (vp_in_nI (n := 4 * (i / 16) + i % 4) (by omega) (by omega)) (by rw [nI_clamp (n := 4 * (i / 16) + i % 4) (by omega)]) dX0_mixWords_90 ?_
    refine k_istore (lv' := [(8, .int (kTrn (4 * (i / 16) + i % 4))), (7, .int (((((mQ w h i).1) + (mF (i / 16) ((mQ w h i).2.1) ((mQ w h i).2.2.1) ((mQ w h i).2.2.2))) + (kSin i)) + (w (mG (i / 16) i)))), (6, .int (nI (i / 16))), (0, .ref o), (1, .int ((mQ w h i).1)), (2, .int ((mQ w h i).2.1)), (3, .int ((mQ w h i).2.2.1)), (4, .int ((mQ w h i).2.2.2)), (5, .int (nI i))]) X dX0_mixWords_91 (by decide) rfl ?_
    refine k_iload X dX0_mixWords_93 7 rfl ?_
    refine k_istore_n (lv' := [(1, .int ((mQ w h i).2.2.2)), (8, .int (kTrn (4 * (i / 16) + i % 4))), (7, .int (((((mQ w h i).1) + (mF (i / 16) ((mQ w h i).2.1) ((mQ w h i).2.2.1) ((mQ w h i).2.2.2))) + (kSin i)) + (w (mG (i / 16) i)))), (6, .int (nI (i / 16))), (0, .ref o), (2, .int ((mQ w h i).2.1)), (3, .int ((mQ w h i).2.2.1)), (4, .int ((mQ w h i).2.2.2)), (5, .int (nI i))]) X dX0_mixWords_95 rfl (by decide) rfl ?_
    refine k_iload_n X dX0_mixWords_96 rfl 6 rfl ?_
    refine k_istore (lv' := [(4, .int ((mQ w h i).2.2.1)), (1, .int ((mQ w h i).2.2.2)), (8, .int (kTrn (4 * (i / 16) + i % 4))), (7, .int (((((mQ w h i).1) + (mF (i / 16) ((mQ w h i).2.1) ((mQ w h i).2.2.1) ((mQ w h i).2.2.2))) + (kSin i)) + (w (mG (i / 16) i)))), (6, .int (nI (i / 16))), (0, .ref o), (2, .int ((mQ w h i).2.1)), (3, .int ((mQ w h i).2.2.1)), (5, .int (nI i))]) X dX0_mixWords_97 (by decide) rfl ?_
    refine k_iload_n X dX0_mixWords_99 rfl 6 rfl ?_
    refine k_istore_n (lv' := [(3, .int ((mQ w h i).2.1)), (4, .int ((mQ w h i).2.2.1)), (1, .int ((mQ w h i).2.2.2)), (8, .int (kTrn (4 * (i / 16) + i % 4))), (7, .int (((((mQ w h i).1) + (mF (i / 16) ((mQ w h i).2.1) ((mQ w h i).2.2.1) ((mQ w h i).2.2.2))) + (kSin i)) + (w (mG (i / 16) i)))), (6, .int (nI (i / 16))), (0, .ref o), (2, .int ((mQ w h i).2.1)), (5, .int (nI i))]) X dX0_mixWords_100 rfl (by decide) rfl ?_
    refine k_iload_n X dX0_mixWords_101 rfl 7 rfl ?_
    refine k_iload X dX0_mixWords_102 4 rfl ?_
    refine k_iload X dX0_mixWords_104 3 rfl ?_
    refine k_ishl X dX0_mixWords_106 ?_
    refine k_iload X dX0_mixWords_107 4 rfl ?_
    refine k_bipush (v := 32) X dX0_mixWords_109 (by decide) ?_
    refine k_iload X dX0_mixWords_111 3 rfl ?_
    refine k_isub X dX0_mixWords_113 ?_
    refine k_iushr (v := ((((((mQ w h i).1) + (mF (i / 16) ((mQ w h i).2.1) ((mQ w h i).2.2.1) ((mQ w h i).2.2.2))) + (kSin i)) + (w (mG (i / 16) i))).toUInt32 >>> ((32 - (kTrn (4 * (i / 16) + i % 4))).toUInt32 &&& Int32.toUInt32 31)).toInt32) X dX0_mixWords_114 rfl ?_
    refine k_ior X dX0_mixWords_115 ?_
    refine k_iadd X dX0_mixWords_116 ?_
    refine k_istore_n (lv' := [(2, .int (((mQ w h i).2.1) + (((((((mQ w h i).1) + (mF (i / 16) ((mQ w h i).2.1) ((mQ w h i).2.2.1) ((mQ w h i).2.2.2))) + (kSin i)) + (w (mG (i / 16) i))) <<< ((kTrn (4 * (i / 16) + i % 4)) &&& 31)) ||| (((((((mQ w h i).1) + (mF (i / 16) ((mQ w h i).2.1) ((mQ w h i).2.2.1) ((mQ w h i).2.2.2))) + (kSin i)) + (w (mG (i / 16) i))).toUInt32 >>> ((32 - (kTrn (4 * (i / 16) + i % 4))).toUInt32 &&& Int32.toUInt32 31)).toInt32)))), (3, .int ((mQ w h i).2.1)), (4, .int ((mQ w h i).2.2.1)), (1, .int ((mQ w h i).2.2.2)), (8, .int (kTrn (4 * (i / 16) + i % 4))), (7, .int (((((mQ w h i).1) + (mF (i / 16) ((mQ w h i).2.1) ((mQ w h i).2.2.1) ((mQ w h i).2.2.2))) + (kSin i)) + (w (mG (i / 16) i)))), (6, .int (nI (i / 16))), (0, .ref o), (5, .int (nI i))]) X dX0_mixWords_117 rfl (by decide) rfl ?_
    refine k_iinc (v := nI (i + 1)) (lv' := [(5, .int (nI (i + 1))), (2, .int (((mQ w h i).2.1) + (((((((mQ w h i).1) + (mF (i / 16) ((mQ w h i).2.1) ((mQ w h i).2.2.1) ((mQ w h i).2.2.2))) + (kSin i)) + (w (mG (i / 16) i))) <<< ((kTrn (4 * (i / 16) + i % 4)) &&& 31)) ||| (((((((mQ w h i).1) + (mF (i / 16) ((mQ w h i).2.1) ((mQ w h i).2.2.1) ((mQ w h i).2.2.2))) + (kSin i)) + (w (mG (i / 16) i))).toUInt32 >>> ((32 - (kTrn (4 * (i / 16) + i % 4))).toUInt32 &&& Int32.toUInt32 31)).toInt32)))), (3, .int ((mQ w h i).2.1)), (4, .int ((mQ w h i).2.2.1)), (1, .int ((mQ w h i).2.2.2)), (8, .int (kTrn (4 * (i / 16) + i % 4))), (7, .int (((((mQ w h i).1) + (mF (i / 16) ((mQ w h i).2.1) ((mQ w h i).2.2.1) ((mQ w h i).2.2.2))) + (kSin i)) + (w (mG (i / 16) i)))), (6, .int (nI (i / 16))), (0, .ref o)]) X dX0_mixWords_118 8 rfl (nI_1 _) (by decide) rfl ?_
    refine k_goto (tgt := 32) X dX0_mixWords_121 (by decide) ?_
    refine k_lv (lv' := [(0, .ref o), (1, .int ((mQ w h (i + 1)).1)), (2, .int ((mQ w h (i + 1)).2.1)), (3, .int ((mQ w h (i + 1)).2.2.1)), (4, .int ((mQ w h (i + 1)).2.2.2)), (5, .int (nI (i + 1)))]) [8, 4, 1, 2, 3, 0] rfl ?_
    refine k_sub (ws' := [(o, .inr (0, [.ref aw, .ref ah])), (aw, .inl (cI, 16, .inl w)), (ah, .inl (cI, 4, .inl h))]) [0, 1, 2] (by decide) rfl rfl ?_
    refine k_wide (k := 0) (n := 0) (by (try dsimp only); omega) (by (try dsimp only); omega) ?_
    exact ih (i + 1) (by omega) (by omega)
set_option maxHeartbeats 4000000 in
set_option maxRecDepth 100000 in
theorem c_digestByte (l : Launch) (D : va_G) (cI cB : ClassId) (o : Nat) (aw : Nat) (ah : Nat) (h : Nat → Int32) (k : Nat) (hk : k < 16) : kC l yX0_digestByte cX0_digestByte 2 (some .int) 0 0 (0) (0) D cI cB [.ref o, .int (nI k)] [(o, .inr (0, [.ref aw, .ref ah])), (ah, .inl (cI, 4, .inl h))] (fun (vV : Option Value) (uU : va_W) => vV = some (.int (dByte h k)) ∧ uU = [(o, .inr (0, [.ref aw, .ref ah])), (ah, .inl (cI, 4, .inl h))]) := by
  refine k_entry (lv0 := [(0, .ref o), (1, .int (nI k))]) (by decide) (Nat.le_of_ble_eq_true rfl) rfl ?_
  intro zp ze zs zm zb zt zc zA X hr hin
  refine k_iload_n X dX0_digestByte_0 rfl 1 rfl ?_
  refine k_if_lt (tgt := 32) (xi := ((k : Nat) : Int)) X (nI_toInt (by omega)) dX0_digestByte_1 (by decide) (fun c_1 => ?_) (fun c_1 => ?_)
  · exact absurd c_1 (by omega)
  · refine k_iload_n X dX0_digestByte_4 rfl 1 rfl ?_
    refine k_bipush (v := 16) X dX0_digestByte_5 (by decide) ?_
    refine k_icmp_ge (tgt := 32) (xi := ((k : Nat) : Int)) (yi := (16 : Int)) X (nI_toInt (by omega)) (by decide) dX0_digestByte_7 (by decide) (fun c_7 => ?_) (fun c_7 => ?_)
    · exact absurd c_7 (by omega)
    · refine k_aload_n X dX0_digestByte_10 rfl 0 rfl ?_
      refine k_get (v := .ref ah) X 0 0 1 rfl rfl (by decide) fl_X0_15 in_X0 rfl rfl dX0_digestByte_11 ?_
      refine k_iload_n X dX0_digestByte_14 rfl 1 rfl ?_
      refine k_iconst (v := 2) X dX0_digestByte_15 (by decide) ?_
      refine k_ishr X dX0_digestByte_16 ?_
      refine k_as (y := nI (k / 4)) (n_shr (by omega) 2 (by decide)) ?_
      refine k_iald (v := h (k / 4)) X 1 rfl (vp_in_nI (n := k / 4) (by omega) (by omega)) (by rw [nI_clamp (n := k / 4) (by omega)]) dX0_digestByte_17 ?_
      refine k_bipush (v := 8) X dX0_digestByte_18 (by decide) ?_
      refine k_iload_n X dX0_digestByte_20 rfl 1 rfl ?_
      refine k_iconst (v := 3) X dX0_digestByte_21 (by decide) ?_
      refine k_iand X dX0_digestByte_22 ?_
      refine k_as (y := nI (k % 4)) (n_and (by omega) 2 (by decide)) ?_
      refine k_imul X dX0_digestByte_23 ?_
      refine k_as (y := nI (8 * (k % 4))) (n_mul 8 _) ?_
      refine k_iushr (v := ((h (k / 4)).toUInt32 >>> ((nI (8 * (k % 4))).toUInt32 &&& Int32.toUInt32 31)).toInt32) X dX0_digestByte_24 rfl ?_
      refine k_sipush (v := 255) X dX0_digestByte_25 (by decide) ?_
      refine k_iand X dX0_digestByte_28 ?_
      refine k_as (y := dByte h k) (rfl) ?_
      refine k_goto (tgt := 33) X dX0_digestByte_29 (by decide) ?_
      exact k_iret (u := [(o, .inr (0, [.ref aw, .ref ah])), (ah, .inl (cI, 4, .inl h))]) X hr [0, 1] (by decide) rfl rfl (⟨rfl, rfl⟩) (by (try dsimp only); omega) (by (try dsimp only); omega) dX0_digestByte_33
set_option maxHeartbeats 4000000 in
set_option maxRecDepth 100000 in
theorem c_fillWords (l : Launch) (D : va_G) (cI cB : ClassId) (o : Nat) (aw : Nat) (ah : Nat) (w : Nat → Int32) (r : Nat) (a : Nat) (mo : Nat) (k : Nat) (n : Nat) (f : Nat → Int32) (x : Nat) (m : Nat) (st : Nat) (hk : k ≤ n) (hn : n ≤ mo) (hmo : mo ≤ 8000) (hxm : x + m ≤ k) (hm : m ≤ 2000) (hst : st ≤ 8000) (hle : st ≤ m) : kC l yX0_fillWords cX0_fillWords 7 none 1 23 (0) (0) D cI cB [.ref o, .ref r, .int (nI x), .int (nI m), .int (nI st)] [(o, .inr (0, [.ref aw, .ref ah])), (aw, .inl (cI, 16, .inl w)), (r, .inr (1, [.int (nI mo), .ref a, .int (nI k)])), (a, .inl (cI, n, .inl f))] (fun (vV : Option Value) (uU : va_W) => ∃ (w2 : Nat → Int32), vV = none ∧ uU = [(o, .inr (0, [.ref aw, .ref ah])), (aw, .inl (cI, 16, .inl w2)), (r, .inr (1, [.int (nI mo), .ref a, .int (nI k)])), (a, .inl (cI, n, .inl f))] ∧ (∀ j, j < 16 → w2 j = mWp (fun t => pb f x m (st + t)) 64 j)) := by
  refine k_entry (lv0 := [(0, .ref o), (1, .ref r), (2, .int (nI x)), (3, .int (nI m)), (4, .int (nI st))]) (by decide) (Nat.le_of_ble_eq_true rfl) rfl ?_
  intro zp ze zs zm zb zt zc zA X hr hin
  refine k_aload_n X dX0_fillWords_0 rfl 0 rfl ?_
  refine k_get (v := .ref aw) X 0 0 0 rfl rfl (by decide) fl_X0_9 in_X0 rfl rfl dX0_fillWords_1 ?_
  refine k_iconst (v := 0) X dX0_fillWords_4 (by decide) ?_
  refine k_callS (wc := [(aw, .inl (cI, 16, .inl w))]) (wr := [(o, .inr (0, [.ref aw, .ref ah])), (r, .inr (1, [.int (nI mo), .ref a, .int (nI k)])), (a, .inl (cI, n, .inl f))]) (As := [.ref aw, .int 0]) (n := 2) (st := []) X (c_fill l D cI cB aw 16 w 0 (by omega)) ml_X0_35 sm_J7_fill_53178 ini_J7 co_J7_fill_53178 (by decide +kernel) rfl ⟨Nat.le_of_ble_eq_true rfl, Nat.le_of_ble_eq_true rfl⟩ (⟨by (try dsimp only); omega, by (try dsimp only); omega⟩) (Nat.le_of_ble_eq_true rfl) [1] [0, 2, 3] rfl rfl rfl (by decide) (by decide) (by decide) rfl dX0_fillWords_5 (fun v_5 u_5 hu_5 => ?_)
  obtain ⟨g0, rfl, rfl, hg0⟩ := hu_5
  refine k_to (ws' := [(o, .inr (0, [.ref aw, .ref ah])), (r, .inr (1, [.int (nI mo), .ref a, .int (nI k)])), (a, .inl (cI, n, .inl f)), (aw, .inl (cI, 16, .inl g0))]) (st' := []) rfl rfl ?_
  refine k_iload_n X dX0_fillWords_8 rfl 3 rfl ?_
  refine k_iload X dX0_fillWords_9 4 rfl ?_
  refine k_isub X dX0_fillWords_11 ?_
  refine k_as (y := nI (m - st)) (pk_sub hle) ?_
  refine k_bipush (v := 64) X dX0_fillWords_12 (by decide) ?_
  refine k_mmin X ml_X0_41 sm_Mmin ini_J9 co_Mmin (Nat.le_of_ble_eq_true rfl) (Nat.le_of_ble_eq_true rfl) (by (try dsimp only); omega) (by (try dsimp only); omega) dX0_fillWords_14 ?_
  refine k_as (y := nI (min (m - st) 64)) (mnI (a := m - st) (b := 64) (by omega) (by omega)) ?_
  refine k_istore (lv' := [(5, .int (nI (min (m - st) 64))), (0, .ref o), (1, .ref r), (2, .int (nI x)), (3, .int (nI m)), (4, .int (nI st))]) X dX0_fillWords_17 (by decide) rfl ?_
  refine k_iconst (v := 0) X dX0_fillWords_19 (by decide) ?_
  refine k_istore (lv' := [(6, .int 0), (5, .int (nI (min (m - st) 64))), (0, .ref o), (1, .ref r), (2, .int (nI x)), (3, .int (nI m)), (4, .int (nI st))]) X dX0_fillWords_20 (by decide) rfl ?_
  refine k_lv (lv' := [(0, .ref o), (1, .ref r), (2, .int (nI x)), (3, .int (nI m)), (4, .int (nI st)), (5, .int (nI (min (m - st) 64))), (6, .int (nI 0))]) [2, 3, 4, 5, 6, 1, 0] rfl ?_
  refine k_sub (ws' := [(o, .inr (0, [.ref aw, .ref ah])), (aw, .inl (cI, 16, .inl g0)), (r, .inr (1, [.int (nI mo), .ref a, .int (nI k)])), (a, .inl (cI, n, .inl f))]) [0, 3, 1, 2] (by decide) rfl rfl ?_
  refine k_wide (k := 0) (n := 0) (by (try dsimp only); omega) (by (try dsimp only); omega) ?_
  refine k_loop2 (pc1 := 22) (cl := fun (i : Nat) (g : Nat → Int32) => 0) (sl := fun (i : Nat) (g : Nat → Int32) => 0) (wsf := fun (i : Nat) (g : Nat → Int32) => [(o, .inr (0, [.ref aw, .ref ah])), (aw, .inl (cI, 16, .inl g)), (r, .inr (1, [.int (nI mo), .ref a, .int (nI k)])), (a, .inl (cI, n, .inl f))]) (lvf := fun (i : Nat) (g : Nat → Int32) => [(0, .ref o), (1, .ref r), (2, .int (nI x)), (3, .int (nI m)), (4, .int (nI st)), (5, .int (nI (min (m - st) 64))), (6, .int (nI i))]) (stf := fun (i : Nat) (g : Nat → Int32) => []) (I := fun (i : Nat) (g : Nat → Int32) => i ≤ min (m - st) 64 ∧ ∀ j, j < 16 → g j = mWp (fun t => pb f x m (st + t)) i j) (mu := fun (i : Nat) (g : Nat → Int32) => min (m - st) 64 - i) ?_ 0 g0 (⟨Nat.zero_le _, fun j hj => hg0 j hj⟩)
  intro i g hI ih
  try dsimp only at hI ih
  try dsimp only
  have hi := hI.1
  refine k_iload X dX0_fillWords_22 6 rfl ?_
  refine k_iload X dX0_fillWords_24 5 rfl ?_
  refine k_icmp_ge (tgt := 66) (xi := ((i : Nat) : Int)) (yi := (((min (m - st) 64) : Nat) : Int)) X (nI_toInt (by omega)) (nI_toInt (by omega)) dX0_fillWords_26 (by decide) (fun c_26 => ?_) (fun c_26 => ?_)
  · obtain rfl : i = min (m - st) 64 := by omega
    refine k_iload X dX0_fillWords_66 5 rfl ?_
    refine k_if_lt (tgt := 101) (xi := (((min (m - st) 64) : Nat) : Int)) X (nI_toInt (by omega)) dX0_fillWords_68 (by decide) (fun c_68 => ?_) (fun c_68 => ?_)
    · exact absurd c_68 (by omega)
    · refine k_iload X dX0_fillWords_71 5 rfl ?_
      refine k_bipush (v := 64) X dX0_fillWords_73 (by decide) ?_
      refine k_icmp_ge (tgt := 101) (xi := (((min (m - st) 64) : Nat) : Int)) (yi := (64 : Int)) X (nI_toInt (by omega)) (by decide) dX0_fillWords_75 (by decide) (fun c_75 => ?_) (fun c_75 => ?_)
      · exact k_vret (u := [(o, .inr (0, [.ref aw, .ref ah])), (aw, .inl (cI, 16, .inl g)), (r, .inr (1, [.int (nI mo), .ref a, .int (nI k)])), (a, .inl (cI, n, .inl f))]) X hr [0, 1, 2, 3] (by decide) rfl rfl (⟨g, rfl, rfl, fun j hj => by rw [mWp_64 (m := 64) (by omega) (fun t h1 h2 => absurd h2 (by omega)), hI.2 j hj]; congr 1; omega⟩) (by (try dsimp only); omega) (by (try dsimp only); omega) dX0_fillWords_101
      · refine k_aload_n X dX0_fillWords_78 rfl 0 rfl ?_
        refine k_get (v := .ref aw) X 0 0 0 rfl rfl (by decide) fl_X0_9 in_X0 rfl rfl dX0_fillWords_79 ?_
        refine k_iload X dX0_fillWords_82 5 rfl ?_
        refine k_iconst (v := 2) X dX0_fillWords_84 (by decide) ?_
        refine k_ishr X dX0_fillWords_85 ?_
        refine k_as (y := nI ((min (m - st) 64) / 4)) (n_shr (by omega) 2 (by decide)) ?_
        refine k_dup2 X dX0_fillWords_86 rfl rfl ?_
        refine k_iald (v := g ((min (m - st) 64) / 4)) X 1 rfl (vp_in_nI (n := (min (m - st) 64) / 4) (by omega) (by omega)) (by rw [nI_clamp (n := (min (m - st) 64) / 4) (by omega)]) dX0_fillWords_87 ?_
        refine k_sipush (v := 128) X dX0_fillWords_88 (by decide) ?_
        refine k_bipush (v := 8) X dX0_fillWords_91 (by decide) ?_
        refine k_iload X dX0_fillWords_93 5 rfl ?_
        refine k_iconst (v := 3) X dX0_fillWords_95 (by decide) ?_
        refine k_iand X dX0_fillWords_96 ?_
        refine k_as (y := nI ((min (m - st) 64) % 4)) (n_and (by omega) 2 (by decide)) ?_
        refine k_imul X dX0_fillWords_97 ?_
        refine k_as (y := nI (8 * ((min (m - st) 64) % 4))) (n_mul 8 _) ?_
        refine k_ishl X dX0_fillWords_98 ?_
        refine k_ior X dX0_fillWords_99 ?_
        refine k_iast (f' := upd g ((min (m - st) 64) / 4) ((g ((min (m - st) 64) / 4)) ||| (128 <<< ((nI (8 * ((min (m - st) 64) % 4))) &&& 31)))) (ws' := [(o, .inr (0, [.ref aw, .ref ah])), (aw, .inl (cI, 16, .inl (upd g ((min (m - st) 64) / 4) ((g ((min (m - st) 64) / 4)) ||| (128 <<< ((nI (8 * ((min (m - st) 64) % 4))) &&& 31)))))), (r, .inr (1, [.int (nI mo), .ref a, .int (nI k)])), (a, .inl (cI, n, .inl f))]) X 1 rfl (vp_in_nI (n := (min (m - st) 64) / 4) (by omega) (by omega)) (by rw [nI_clamp (n := (min (m - st) 64) / 4) (by omega)]) rfl dX0_fillWords_100 ?_
        exact k_vret (u := [(o, .inr (0, [.ref aw, .ref ah])), (aw, .inl (cI, 16, .inl (upd g ((min (m - st) 64) / 4) ((g ((min (m - st) 64) / 4)) ||| (128 <<< ((nI (8 * ((min (m - st) 64) % 4))) &&& 31)))))), (r, .inr (1, [.int (nI mo), .ref a, .int (nI k)])), (a, .inl (cI, n, .inl f))]) X hr [0, 1, 2, 3] (by decide) rfl rfl (⟨_, rfl, rfl, fun j hj => by rw [mWp_64 (m := min (m - st) 64 + 1) (by omega) (fun t h1 h2 => by rw [pb, if_neg (by omega), if_neg (by omega)])]; exact mW_step (by omega) (by rw [pb, if_neg (by omega), if_pos (by omega)]) hI.2 j hj⟩) (by (try dsimp only); omega) (by (try dsimp only); omega) dX0_fillWords_101
  · refine k_aload_n X dX0_fillWords_29 rfl 0 rfl ?_
    refine k_get (v := .ref aw) X 0 0 0 rfl rfl (by decide) fl_X0_9 in_X0 rfl rfl dX0_fillWords_30 ?_
    refine k_iload X dX0_fillWords_33 6 rfl ?_
    refine k_iconst (v := 2) X dX0_fillWords_35 (by decide) ?_
    refine k_ishr X dX0_fillWords_36 ?_
    refine k_as (y := nI (i / 4)) (n_shr (by omega) 2 (by decide)) ?_
    refine k_dup2 X dX0_fillWords_37 rfl rfl ?_
    refine k_iald (v := g (i / 4)) X 1 rfl (vp_in_nI (n := i / 4) (by omega) (by omega)) (by rw [nI_clamp (n := i / 4) (by omega)]) dX0_fillWords_38 ?_
    refine k_aload_n X dX0_fillWords_39 rfl 1 rfl ?_
    refine k_iload_n X dX0_fillWords_40 rfl 2 rfl ?_
    refine k_iload X dX0_fillWords_41 4 rfl ?_
    refine k_iadd X dX0_fillWords_43 ?_
    refine k_as (y := nI (x + st)) (nI_add _ _) ?_
    refine k_iload X dX0_fillWords_44 6 rfl ?_
    refine k_iadd X dX0_fillWords_46 ?_
    refine k_as (y := nI (x + st + i)) (nI_add _ _) ?_
    refine k_callV (wc := [(r, .inr (1, [.int (nI mo), .ref a, .int (nI k)])), (a, .inl (cI, n, .inl f))]) (wr := [(o, .inr (0, [.ref aw, .ref ah])), (aw, .inl (cI, 16, .inl g))]) (As := [.int (nI (x + st + i))]) (n := 1) (st := [.int (g (i / 4)), .int (nI (i / 4)), .ref aw]) (q0 := 0) X (c_get l D cI cB r a mo k n f (nI (x + st + i)) (by omega) (by omega) (by omega)) rfl rfl ml_X0_47 im_X1_get se_X1_get ini_X1 co_X1_get (by decide +kernel) rfl ⟨Nat.le_of_ble_eq_true rfl, Nat.le_of_ble_eq_true rfl⟩ (⟨by (try dsimp only); omega, by (try dsimp only); omega⟩) (Nat.le_of_ble_eq_true rfl) [2, 3] [0, 1] rfl rfl rfl (by decide) (by decide) (by decide) rfl dX0_fillWords_47 (fun v_47 u_47 hu_47 => ?_)
    obtain ⟨rfl, rfl⟩ := hu_47
    refine k_to (ws' := [(o, .inr (0, [.ref aw, .ref ah])), (aw, .inl (cI, 16, .inl g)), (r, .inr (1, [.int (nI mo), .ref a, .int (nI k)])), (a, .inl (cI, n, .inl f))]) (st' := [.int (rGet f k (nI (x + st + i))), .int (g (i / 4)), .int (nI (i / 4)), .ref aw]) rfl rfl ?_
    refine k_as (y := f (x + st + i)) (rGet_nI (by omega) (by omega)) ?_
    refine k_bipush (v := 8) X dX0_fillWords_50 (by decide) ?_
    refine k_iload X dX0_fillWords_52 6 rfl ?_
    refine k_iconst (v := 3) X dX0_fillWords_54 (by decide) ?_
    refine k_iand X dX0_fillWords_55 ?_
    refine k_as (y := nI (i % 4)) (n_and (by omega) 2 (by decide)) ?_
    refine k_imul X dX0_fillWords_56 ?_
    refine k_as (y := nI (8 * (i % 4))) (n_mul 8 _) ?_
    refine k_ishl X dX0_fillWords_57 ?_
    refine k_ior X dX0_fillWords_58 ?_
    refine k_iast (f' := upd g (i / 4) ((g (i / 4)) ||| ((f (x + st + i)) <<< ((nI (8 * (i % 4))) &&& 31)))) (ws' := [(o, .inr (0, [.ref aw, .ref ah])), (aw, .inl (cI, 16, .inl (upd g (i / 4) ((g (i / 4)) ||| ((f (x + st + i)) <<< ((nI (8 * (i % 4))) &&& 31)))))), (r, .inr (1, [.int (nI mo), .ref a, .int (nI k)])), (a, .inl (cI, n, .inl f))]) X 1 rfl (vp_in_nI (n := i / 4) (by omega) (by omega)) (by rw [nI_clamp (n := i / 4) (by omega)]) rfl dX0_fillWords_59 ?_
    refine k_iinc (v := nI (i + 1)) (lv' := [(6, .int (nI (i + 1))), (0, .ref o), (1, .ref r), (2, .int (nI x)), (3, .int (nI m)), (4, .int (nI st)), (5, .int (nI (min (m - st) 64)))]) X dX0_fillWords_60 6 rfl (nI_1 _) (by decide) rfl ?_
    refine k_goto (tgt := 22) X dX0_fillWords_63 (by decide) ?_
    refine k_lv (lv' := [(0, .ref o), (1, .ref r), (2, .int (nI x)), (3, .int (nI m)), (4, .int (nI st)), (5, .int (nI (min (m - st) 64))), (6, .int (nI (i + 1)))]) [1, 2, 3, 4, 5, 6, 0] rfl ?_
    refine k_sub (ws' := [(o, .inr (0, [.ref aw, .ref ah])), (aw, .inl (cI, 16, .inl (upd g (i / 4) (g (i / 4) ||| (f (x + st + i) <<< (nI (8 * (i % 4)) &&& 31)))))), (r, .inr (1, [.int (nI mo), .ref a, .int (nI k)])), (a, .inl (cI, n, .inl f))]) [0, 1, 2, 3] (by decide) rfl rfl ?_
    refine k_wide (k := 0) (n := 0) (by (try dsimp only); omega) (by (try dsimp only); omega) ?_
    exact ih (i + 1) (upd g (i / 4) (g (i / 4) ||| (f (x + st + i) <<< (nI (8 * (i % 4)) &&& 31)))) (⟨by omega, fun j hj => mW_step (by omega) (by rw [pb, if_pos (by omega)]; congr 1; omega) hI.2 j hj⟩) (by omega)
set_option maxHeartbeats 4000000 in
set_option maxRecDepth 100000 in
theorem c_fillWords_z (l : Launch) (D : va_G) (cI cB : ClassId) (o : Nat) (aw : Nat) (ah : Nat) (w : Nat → Int32) (r : Nat) (a : Nat) (mo : Nat) (k : Nat) (n : Nat) (f : Nat → Int32) (x : Nat) (m : Nat) (st : Nat) (hk : k ≤ n) (hn : n ≤ mo) (hmo : mo ≤ 8000) (hxm : x + m ≤ k) (hm : m ≤ 2000) (hst : st ≤ 8000) (hlt : m < st) : kC l yX0_fillWords cX0_fillWords 7 none 1 23 (0) (0) D cI cB [.ref o, .ref r, .int (nI x), .int (nI m), .int (nI st)] [(o, .inr (0, [.ref aw, .ref ah])), (aw, .inl (cI, 16, .inl w)), (r, .inr (1, [.int (nI mo), .ref a, .int (nI k)])), (a, .inl (cI, n, .inl f))] (fun (vV : Option Value) (uU : va_W) => ∃ (w2 : Nat → Int32), vV = none ∧ uU = [(o, .inr (0, [.ref aw, .ref ah])), (aw, .inl (cI, 16, .inl w2)), (r, .inr (1, [.int (nI mo), .ref a, .int (nI k)])), (a, .inl (cI, n, .inl f))] ∧ (∀ j, j < 16 → w2 j = mWp (fun t => pb f x m (st + t)) 64 j)) := by
  refine k_entry (lv0 := [(0, .ref o), (1, .ref r), (2, .int (nI x)), (3, .int (nI m)), (4, .int (nI st))]) (by decide) (Nat.le_of_ble_eq_true rfl) rfl ?_
  intro zp ze zs zm zb zt zc zA X hr hin
  refine k_aload_n X dX0_fillWords_0 rfl 0 rfl ?_
  refine k_get (v := .ref aw) X 0 0 0 rfl rfl (by decide) fl_X0_9 in_X0 rfl rfl dX0_fillWords_1 ?_
  refine k_iconst (v := 0) X dX0_fillWords_4 (by decide) ?_
  refine k_callS (wc := [(aw, .inl (cI, 16, .inl w))]) (wr := [(o, .inr (0, [.ref aw, .ref ah])), (r, .inr (1, [.int (nI mo), .ref a, .int (nI k)])), (a, .inl (cI, n, .inl f))]) (As := [.ref aw, .int 0]) (n := 2) (st := []) X (c_fill l D cI cB aw 16 w 0 (by omega)) ml_X0_35 sm_J7_fill_53178 ini_J7 co_J7_fill_53178 (by decide +kernel) rfl ⟨Nat.le_of_ble_eq_true rfl, Nat.le_of_ble_eq_true rfl⟩ (⟨by (try dsimp only); omega, by (try dsimp only); omega⟩) (Nat.le_of_ble_eq_true rfl) [1] [0, 2, 3] rfl rfl rfl (by decide) (by decide) (by decide) rfl dX0_fillWords_5 (fun v_5 u_5 hu_5 => ?_)
  obtain ⟨g0, rfl, rfl, hg0⟩ := hu_5
  refine k_to (ws' := [(o, .inr (0, [.ref aw, .ref ah])), (r, .inr (1, [.int (nI mo), .ref a, .int (nI k)])), (a, .inl (cI, n, .inl f)), (aw, .inl (cI, 16, .inl g0))]) (st' := []) rfl rfl ?_
  refine k_iload_n X dX0_fillWords_8 rfl 3 rfl ?_
  refine k_iload X dX0_fillWords_9 4 rfl ?_
  refine k_isub X dX0_fillWords_11 ?_
  refine k_bipush (v := 64) X dX0_fillWords_12 (by decide) ?_
  refine k_mmin X ml_X0_41 sm_Mmin ini_J9 co_Mmin (Nat.le_of_ble_eq_true rfl) (Nat.le_of_ble_eq_true rfl) (by (try dsimp only); omega) (by (try dsimp only); omega) dX0_fillWords_14 ?_
  refine k_as (y := nI m - nI st) (if_neg (fun z => absurd (Int32.lt_iff_toInt_lt.mp z) (by rw [pk_sub_toInt (by omega) (by omega), show (64 : Int32).toInt = 64 from rfl]; omega))) ?_
  refine k_istore (lv' := [(5, .int (nI m - nI st)), (0, .ref o), (1, .ref r), (2, .int (nI x)), (3, .int (nI m)), (4, .int (nI st))]) X dX0_fillWords_17 (by decide) rfl ?_
  refine k_iconst (v := 0) X dX0_fillWords_19 (by decide) ?_
  refine k_istore (lv' := [(6, .int 0), (5, .int (nI m - nI st)), (0, .ref o), (1, .ref r), (2, .int (nI x)), (3, .int (nI m)), (4, .int (nI st))]) X dX0_fillWords_20 (by decide) rfl ?_
  refine k_iload X dX0_fillWords_22 0 rfl ?_
  refine k_iload X dX0_fillWords_24 1 rfl ?_
  refine k_icmp_ge (tgt := 66) (xi := (0 : Int)) (yi := ((m : Nat) : Int) - ((st : Nat) : Int)) X (by decide) (pk_sub_toInt (by omega) (by omega)) dX0_fillWords_26 (by decide) (fun c_26 => ?_) (fun c_26 => ?_)
  · refine k_iload X dX0_fillWords_66 1 rfl ?_
    refine k_if_lt (tgt := 101) (xi := ((m : Nat) : Int) - ((st : Nat) : Int)) X (pk_sub_toInt (by omega) (by omega)) dX0_fillWords_68 (by decide) (fun c_68 => ?_) (fun c_68 => ?_)
    · exact k_vret (u := [(o, .inr (0, [.ref aw, .ref ah])), (aw, .inl (cI, 16, .inl g0)), (r, .inr (1, [.int (nI mo), .ref a, .int (nI k)])), (a, .inl (cI, n, .inl f))]) X hr [0, 3, 1, 2] (by decide) rfl rfl (⟨g0, rfl, rfl, fun j hj => by rw [mWp_64 (m := 0) (by omega) (fun t h1 h2 => by rw [pb, if_neg (by omega), if_neg (by omega)])]; exact hg0 j hj⟩) (by (try dsimp only); omega) (by (try dsimp only); omega) dX0_fillWords_101
    · exact absurd c_68 (by omega)
  · exact absurd c_26 (by omega)
set_option maxHeartbeats 4000000 in
set_option maxRecDepth 100000 in
theorem c_take (l : Launch) (D : va_G) (cI cB : ClassId) (o : Nat) (aw : Nat) (ah : Nat) (w : Nat → Int32) (h : Nat → Int32) (r : Nat) (a : Nat) (mo : Nat) (k : Nat) (n : Nat) (f : Nat → Int32) (x : Nat) (m : Nat) (hk : k ≤ n) (hn : n ≤ mo) (hmo : mo ≤ 8000) (hxm : x + m ≤ k) (hm : m ≤ 2000) : kC l yX0_take cX0_take 6 none 2 51 (0) (0) D cI cB [.ref o, .ref r, .int (nI x), .int (nI m)] [(o, .inr (0, [.ref aw, .ref ah])), (aw, .inl (cI, 16, .inl w)), (ah, .inl (cI, 4, .inl h)), (r, .inr (1, [.int (nI mo), .ref a, .int (nI k)])), (a, .inl (cI, n, .inl f))] (fun (vV : Option Value) (uU : va_W) => ∃ (w2 : Nat → Int32) (h2 : Nat → Int32), vV = none ∧ uU = [(o, .inr (0, [.ref aw, .ref ah])), (aw, .inl (cI, 16, .inl w2)), (ah, .inl (cI, 4, .inl h2)), (r, .inr (1, [.int (nI mo), .ref a, .int (nI k)])), (a, .inl (cI, n, .inl f))] ∧ (∀ j, j < 4 → h2 j = mDig f x m j)) := by
  refine k_entry (lv0 := [(0, .ref o), (1, .ref r), (2, .int (nI x)), (3, .int (nI m))]) (by decide) (Nat.le_of_ble_eq_true rfl) rfl ?_
  intro zp ze zs zm zb zt zc zA X hr hin
  refine k_aload_n X dX0_take_0 rfl 0 rfl ?_
  refine k_get (v := .ref ah) X 0 0 1 rfl rfl (by decide) fl_X0_15 in_X0 rfl rfl dX0_take_1 ?_
  refine k_iconst (v := 0) X dX0_take_4 (by decide) ?_
  refine k_ldc X kc_X0_18 dX0_take_5 ?_
  refine k_iast (f' := upd h 0 1732584193) (ws' := [(o, .inr (0, [.ref aw, .ref ah])), (aw, .inl (cI, 16, .inl w)), (ah, .inl (cI, 4, .inl (upd h 0 1732584193))), (r, .inr (1, [.int (nI mo), .ref a, .int (nI k)])), (a, .inl (cI, n, .inl f))]) X 2 rfl (vp_in_nI (n := 0) (by omega) (by omega)) (by rw [show ((0 : Int32).toNatClampNeg) = 0 from rfl]) rfl dX0_take_7 ?_
  refine k_aload_n X dX0_take_8 rfl 0 rfl ?_
  refine k_get (v := .ref ah) X 0 0 1 rfl rfl (by decide) fl_X0_15 in_X0 rfl rfl dX0_take_9 ?_
  refine k_iconst (v := 1) X dX0_take_12 (by decide) ?_
  refine k_ldc X kc_X0_19 dX0_take_13 ?_
  refine k_iast (f' := upd (upd h 0 1732584193) 1 (-271733879)) (ws' := [(o, .inr (0, [.ref aw, .ref ah])), (aw, .inl (cI, 16, .inl w)), (ah, .inl (cI, 4, .inl (upd (upd h 0 1732584193) 1 (-271733879)))), (r, .inr (1, [.int (nI mo), .ref a, .int (nI k)])), (a, .inl (cI, n, .inl f))]) X 2 rfl (vp_in_nI (n := 1) (by omega) (by omega)) (by rw [show ((1 : Int32).toNatClampNeg) = 1 from rfl]) rfl dX0_take_15 ?_
  refine k_aload_n X dX0_take_16 rfl 0 rfl ?_
  refine k_get (v := .ref ah) X 0 0 1 rfl rfl (by decide) fl_X0_15 in_X0 rfl rfl dX0_take_17 ?_
  refine k_iconst (v := 2) X dX0_take_20 (by decide) ?_
  refine k_ldc X kc_X0_20 dX0_take_21 ?_
  refine k_iast (f' := upd (upd (upd h 0 1732584193) 1 (-271733879)) 2 (-1732584194)) (ws' := [(o, .inr (0, [.ref aw, .ref ah])), (aw, .inl (cI, 16, .inl w)), (ah, .inl (cI, 4, .inl (upd (upd (upd h 0 1732584193) 1 (-271733879)) 2 (-1732584194)))), (r, .inr (1, [.int (nI mo), .ref a, .int (nI k)])), (a, .inl (cI, n, .inl f))]) X 2 rfl (vp_in_nI (n := 2) (by omega) (by omega)) (by rw [show ((2 : Int32).toNatClampNeg) = 2 from rfl]) rfl dX0_take_23 ?_
  refine k_aload_n X dX0_take_24 rfl 0 rfl ?_
  refine k_get (v := .ref ah) X 0 0 1 rfl rfl (by decide) fl_X0_15 in_X0 rfl rfl dX0_take_25 ?_
  refine k_iconst (v := 3) X dX0_take_28 (by decide) ?_
  refine k_ldc X kc_X0_21 dX0_take_29 ?_
  refine k_iast (f' := upd (upd (upd (upd h 0 1732584193) 1 (-271733879)) 2 (-1732584194)) 3 271733878) (ws' := [(o, .inr (0, [.ref aw, .ref ah])), (aw, .inl (cI, 16, .inl w)), (ah, .inl (cI, 4, .inl (upd (upd (upd (upd h 0 1732584193) 1 (-271733879)) 2 (-1732584194)) 3 271733878))), (r, .inr (1, [.int (nI mo), .ref a, .int (nI k)])), (a, .inl (cI, n, .inl f))]) X 2 rfl (vp_in_nI (n := 3) (by omega) (by omega)) (by rw [show ((3 : Int32).toNatClampNeg) = 3 from rfl]) rfl dX0_take_31 ?_
  refine k_aload_n X dX0_take_32 rfl 1 rfl ?_
  refine k_iload_n X dX0_take_33 rfl 2 rfl ?_
  refine k_iload_n X dX0_take_34 rfl 3 rfl ?_
  refine k_callV (wc := [(r, .inr (1, [.int (nI mo), .ref a, .int (nI k)]))]) (wr := [(o, .inr (0, [.ref aw, .ref ah])), (aw, .inl (cI, 16, .inl w)), (ah, .inl (cI, 4, .inl (upd (upd (upd (upd h 0 1732584193) 1 (-271733879)) 2 (-1732584194)) 3 271733878))), (a, .inl (cI, n, .inl f))]) (As := [.int (nI x), .int (nI m)]) (n := 2) (st := []) (q0 := 0) X (c_holds l D cI cB r a mo k (nI x) (nI m) (by omega)) rfl rfl ml_X0_22 im_X1_holds se_X1_holds ini_X1 co_X1_holds (by decide +kernel) rfl ⟨Nat.le_of_ble_eq_true rfl, Nat.le_of_ble_eq_true rfl⟩ (⟨by (try dsimp only); omega, by (try dsimp only); omega⟩) (Nat.le_of_ble_eq_true rfl) [3] [0, 1, 2, 4] rfl rfl rfl (by decide) (by decide) (by decide) rfl dX0_take_35 (fun v_35 u_35 hu_35 => ?_)
  obtain ⟨rfl, rfl⟩ := hu_35
  refine k_to (ws' := [(o, .inr (0, [.ref aw, .ref ah])), (aw, .inl (cI, 16, .inl w)), (ah, .inl (cI, 4, .inl (upd (upd (upd (upd h 0 1732584193) 1 (-271733879)) 2 (-1732584194)) 3 271733878))), (a, .inl (cI, n, .inl f)), (r, .inr (1, [.int (nI mo), .ref a, .int (nI k)]))]) (st' := [.int (b2i (decide (rHolds (nI x) (nI m) k)))]) rfl rfl ?_
  refine k_as (y := 1) (b2i_t ((rHolds_iff (by omega) (by omega)).mpr hxm)) ?_
  refine k_if_ne (tgt := 42) (xi := (1 : Int)) X (by decide) dX0_take_38 (by decide) (fun c_38 => ?_) (fun c_38 => ?_)
  · refine k_iload_n X dX0_take_42 rfl 3 rfl ?_
    refine k_bipush (v := 8) X dX0_take_43 (by decide) ?_
    refine k_iadd X dX0_take_45 ?_
    refine k_as (y := nI (m + 8)) (nI_add _ 8) ?_
    refine k_bipush (v := 64) X dX0_take_46 (by decide) ?_
    refine k_idiv X dX0_take_48 (by decide) ?_
    refine k_as (y := nI ((m + 8) / 64)) (pk_div (a := m + 8) (d := 64) (by omega) (by omega) (by omega)) ?_
    refine k_iconst (v := 1) X dX0_take_49 (by decide) ?_
    refine k_iadd X dX0_take_50 ?_
    refine k_as (y := nI ((m + 8) / 64 + 1)) (nI_1 _) ?_
    refine k_istore (lv' := [(4, .int (nI ((m + 8) / 64 + 1))), (0, .ref o), (1, .ref r), (2, .int (nI x)), (3, .int (nI m))]) X dX0_take_51 (by decide) rfl ?_
    refine k_iconst (v := 0) X dX0_take_53 (by decide) ?_
    refine k_istore (lv' := [(5, .int 0), (4, .int (nI ((m + 8) / 64 + 1))), (0, .ref o), (1, .ref r), (2, .int (nI x)), (3, .int (nI m))]) X dX0_take_54 (by decide) rfl ?_
    refine k_lv (lv' := [(0, .ref o), (1, .ref r), (2, .int (nI x)), (3, .int (nI m)), (4, .int (nI ((m + 8) / 64 + 1))), (5, .int (nI 0))]) [2, 3, 4, 5, 1, 0] rfl ?_
    refine k_sub (ws' := [(o, .inr (0, [.ref aw, .ref ah])), (aw, .inl (cI, 16, .inl w)), (ah, .inl (cI, 4, .inl (upd (upd (upd (upd h 0 1732584193) 1 (-271733879)) 2 (-1732584194)) 3 271733878))), (r, .inr (1, [.int (nI mo), .ref a, .int (nI k)])), (a, .inl (cI, n, .inl f))]) [0, 1, 2, 4, 3] (by decide) rfl rfl ?_
    refine k_wide (k := 0) (n := 0) (by (try dsimp only); omega) (by (try dsimp only); omega) ?_
    refine k_loop3 (pc1 := 56) (cl := fun (ci : Nat) (w1 : Nat → Int32) (h1 : Nat → Int32) => 0) (sl := fun (ci : Nat) (w1 : Nat → Int32) (h1 : Nat → Int32) => 0) (wsf := fun (ci : Nat) (w1 : Nat → Int32) (h1 : Nat → Int32) => [(o, .inr (0, [.ref aw, .ref ah])), (aw, .inl (cI, 16, .inl w1)), (ah, .inl (cI, 4, .inl h1)), (r, .inr (1, [.int (nI mo), .ref a, .int (nI k)])), (a, .inl (cI, n, .inl f))]) (lvf := fun (ci : Nat) (w1 : Nat → Int32) (h1 : Nat → Int32) => [(0, .ref o), (1, .ref r), (2, .int (nI x)), (3, .int (nI m)), (4, .int (nI ((m + 8) / 64 + 1))), (5, .int (nI ci))]) (stf := fun (ci : Nat) (w1 : Nat → Int32) (h1 : Nat → Int32) => []) (I := fun (ci : Nat) (w1 : Nat → Int32) (h1 : Nat → Int32) => ci ≤ (m + 8) / 64 + 1 ∧ ∀ j, j < 4 → h1 j = mSt f x m ci j) (mu := fun (ci : Nat) (w1 : Nat → Int32) (h1 : Nat → Int32) => (m + 8) / 64 + 1 - ci) ?_ 0 w (upd (upd (upd (upd h 0 1732584193) 1 (-271733879)) 2 (-1732584194)) 3 271733878) (⟨Nat.zero_le _, fun j hj => mIni_eq h j hj⟩)
    intro ci w1 h1 hI ih
    try dsimp only at hI ih
    try dsimp only
    have hi := hI.1
    refine k_iload X dX0_take_56 5 rfl ?_
    refine k_iload X dX0_take_58 4 rfl ?_
    refine k_icmp_ge (tgt := 115) (xi := ((ci : Nat) : Int)) (yi := ((((m + 8) / 64 + 1) : Nat) : Int)) X (nI_toInt (by omega)) (nI_toInt (by omega)) dX0_take_60 (by decide) (fun c_60 => ?_) (fun c_60 => ?_)
    · exact k_vret (u := [(o, .inr (0, [.ref aw, .ref ah])), (aw, .inl (cI, 16, .inl w1)), (ah, .inl (cI, 4, .inl h1)), (r, .inr (1, [.int (nI mo), .ref a, .int (nI k)])), (a, .inl (cI, n, .inl f))]) X hr [0, 1, 2, 3, 4] (by decide) rfl rfl (⟨w1, h1, rfl, rfl, fun j hj => by rw [hI.2 j hj]; unfold mDig; congr 1; omega⟩) (by (try dsimp only); omega) (by (try dsimp only); omega) dX0_take_115
    · refine k_aload_n X dX0_take_63 rfl 0 rfl ?_
      refine k_aload_n X dX0_take_64 rfl 1 rfl ?_
      refine k_iload_n X dX0_take_65 rfl 2 rfl ?_
      refine k_iload_n X dX0_take_66 rfl 3 rfl ?_
      refine k_iload X dX0_take_67 5 rfl ?_
      refine k_bipush (v := 64) X dX0_take_69 (by decide) ?_
      refine k_imul X dX0_take_71 ?_
      refine k_as (y := nI (64 * ci)) (by rw [Nat.mul_comm]; exact n_mul ci 64) ?_
      by_cases hcm : 64 * ci ≤ m
      · refine k_callV (wc := [(o, .inr (0, [.ref aw, .ref ah])), (aw, .inl (cI, 16, .inl w1)), (r, .inr (1, [.int (nI mo), .ref a, .int (nI k)])), (a, .inl (cI, n, .inl f))]) (wr := [(ah, .inl (cI, 4, .inl h1))]) (As := [.ref r, .int (nI x), .int (nI m), .int (nI (64 * ci))]) (n := 4) (st := []) (q0 := 0) X (c_fillWords l D cI cB o aw ah w1 r a mo k n f x m (64 * ci) (by omega) (by omega) (by omega) (hxm) (hm) (by omega) (by omega)) rfl rfl ml_X0_28 im_X0_fillWords se_X0_fillWords ini_X0 co_X0_fillWords (by decide +kernel) rfl ⟨Nat.le_of_ble_eq_true rfl, Nat.le_of_ble_eq_true rfl⟩ (⟨by (try dsimp only); omega, by (try dsimp only); omega⟩) (Nat.le_of_ble_eq_true rfl) [0, 1, 3, 4] [2] rfl rfl rfl (by decide) (by decide) (by decide) rfl dX0_take_72 (fun v_72 u_72 hu_72 => ?_)
        obtain ⟨w2, rfl, rfl, hw2⟩ := hu_72
        refine k_to (ws' := [(ah, .inl (cI, 4, .inl h1)), (o, .inr (0, [.ref aw, .ref ah])), (aw, .inl (cI, 16, .inl w2)), (r, .inr (1, [.int (nI mo), .ref a, .int (nI k)])), (a, .inl (cI, n, .inl f))]) (st' := []) rfl rfl ?_
        refine k_iload X dX0_take_75 5 rfl ?_
        refine k_iload X dX0_take_77 4 rfl ?_
        refine k_iconst (v := 1) X dX0_take_79 (by decide) ?_
        refine k_isub X dX0_take_80 ?_
        refine k_as (y := nI ((m + 8) / 64)) (nI_pred _) ?_
        refine k_icmp_ne (tgt := 105) (xi := ((ci : Nat) : Int)) (yi := ((((m + 8) / 64) : Nat) : Int)) X (nI_toInt (by omega)) (nI_toInt (by omega)) dX0_take_81 (by decide) (fun c_81 => ?_) (fun c_81 => ?_)
        · refine k_aload_n X dX0_take_105 rfl 0 rfl ?_
          refine k_callV (wc := [(o, .inr (0, [.ref aw, .ref ah])), (aw, .inl (cI, 16, .inl w2)), (ah, .inl (cI, 4, .inl h1))]) (wr := [(r, .inr (1, [.int (nI mo), .ref a, .int (nI k)])), (a, .inl (cI, n, .inl f))]) (As := []) (n := 0) (st := []) (q0 := 0) X (c_mixWords l D cI cB o aw ah w2 h1 ) rfl rfl ml_X0_32 im_X0_mixWords se_X0_mixWords ini_X0 co_X0_mixWords (by decide +kernel) rfl ⟨Nat.le_of_ble_eq_true rfl, Nat.le_of_ble_eq_true rfl⟩ (⟨by (try dsimp only); omega, by (try dsimp only); omega⟩) (Nat.le_of_ble_eq_true rfl) [1, 2, 0] [3, 4] rfl rfl rfl (by decide) (by decide) (by decide) rfl dX0_take_106 (fun v_106 u_106 hu_106 => ?_)
          obtain ⟨rfl, rfl⟩ := hu_106
          refine k_to (ws' := [(r, .inr (1, [.int (nI mo), .ref a, .int (nI k)])), (a, .inl (cI, n, .inl f)), (o, .inr (0, [.ref aw, .ref ah])), (aw, .inl (cI, 16, .inl w2)), (ah, .inl (cI, 4, .inl (mMix w2 h1)))]) (st' := []) rfl rfl ?_
          refine k_iinc (v := nI (ci + 1)) (lv' := [(5, .int (nI (ci + 1))), (0, .ref o), (1, .ref r), (2, .int (nI x)), (3, .int (nI m)), (4, .int (nI ((m + 8) / 64 + 1)))]) X dX0_take_109 5 rfl (nI_1 _) (by decide) rfl ?_
          refine k_goto (tgt := 56) X dX0_take_112 (by decide) ?_
          refine k_lv (lv' := [(0, .ref o), (1, .ref r), (2, .int (nI x)), (3, .int (nI m)), (4, .int (nI ((m + 8) / 64 + 1))), (5, .int (nI (ci + 1)))]) [1, 2, 3, 4, 5, 0] rfl ?_
          refine k_sub (ws' := [(o, .inr (0, [.ref aw, .ref ah])), (aw, .inl (cI, 16, .inl w2)), (ah, .inl (cI, 4, .inl (mMix w2 h1))), (r, .inr (1, [.int (nI mo), .ref a, .int (nI k)])), (a, .inl (cI, n, .inl f))]) [2, 3, 4, 0, 1] (by decide) rfl rfl ?_
          refine k_wide (k := 0) (n := 0) (by (try dsimp only); omega) (by (try dsimp only); omega) ?_
          exact ih (ci + 1) w2 (mMix w2 h1) (⟨by omega, mMix_congr (fun j hj => mCh_mid (by omega) hw2 j hj) hI.2⟩) (by omega)
        · refine k_aload_n X dX0_take_84 rfl 0 rfl ?_
          refine k_get (v := .ref aw) X 1 0 0 rfl rfl (by decide) fl_X0_9 in_X0 rfl rfl dX0_take_85 ?_
          refine k_bipush (v := 14) X dX0_take_88 (by decide) ?_
          refine k_iload_n X dX0_take_90 rfl 3 rfl ?_
          refine k_iconst (v := 3) X dX0_take_91 (by decide) ?_
          refine k_ishl X dX0_take_92 ?_
          refine k_as (y := nI (8 * m)) (sh3 (by omega)) ?_
          refine k_iast (f' := upd w2 14 (nI (8 * m))) (ws' := [(ah, .inl (cI, 4, .inl h1)), (o, .inr (0, [.ref aw, .ref ah])), (aw, .inl (cI, 16, .inl (upd w2 14 (nI (8 * m))))), (r, .inr (1, [.int (nI mo), .ref a, .int (nI k)])), (a, .inl (cI, n, .inl f))]) X 2 rfl (vp_in_nI (n := 14) (by omega) (by omega)) (by rw [show ((14 : Int32).toNatClampNeg) = 14 from rfl]) rfl dX0_take_93 ?_
          refine k_aload_n X dX0_take_94 rfl 0 rfl ?_
          refine k_get (v := .ref aw) X 1 0 0 rfl rfl (by decide) fl_X0_9 in_X0 rfl rfl dX0_take_95 ?_
          refine k_bipush (v := 15) X dX0_take_98 (by decide) ?_
          refine k_iload_n X dX0_take_100 rfl 3 rfl ?_
          refine k_bipush (v := 29) X dX0_take_101 (by decide) ?_
          refine k_iushr (v := ((nI m).toUInt32 >>> (Int32.toUInt32 29 &&& Int32.toUInt32 31)).toInt32) X dX0_take_103 rfl ?_
          refine k_as (y := 0) (sh29 (by omega)) ?_
          refine k_iast (f' := upd (upd w2 14 (nI (8 * m))) 15 0) (ws' := [(ah, .inl (cI, 4, .inl h1)), (o, .inr (0, [.ref aw, .ref ah])), (aw, .inl (cI, 16, .inl (upd (upd w2 14 (nI (8 * m))) 15 0))), (r, .inr (1, [.int (nI mo), .ref a, .int (nI k)])), (a, .inl (cI, n, .inl f))]) X 2 rfl (vp_in_nI (n := 15) (by omega) (by omega)) (by rw [show ((15 : Int32).toNatClampNeg) = 15 from rfl]) rfl dX0_take_104 ?_
          refine k_aload_n X dX0_take_105 rfl 0 rfl ?_
          refine k_callV (wc := [(o, .inr (0, [.ref aw, .ref ah])), (aw, .inl (cI, 16, .inl (upd (upd w2 14 (nI (8 * m))) 15 0))), (ah, .inl (cI, 4, .inl h1))]) (wr := [(r, .inr (1, [.int (nI mo), .ref a, .int (nI k)])), (a, .inl (cI, n, .inl f))]) (As := []) (n := 0) (st := []) (q0 := 0) X (c_mixWords l D cI cB o aw ah (upd (upd w2 14 (nI (8 * m))) 15 0) h1 ) rfl rfl ml_X0_32 im_X0_mixWords se_X0_mixWords ini_X0 co_X0_mixWords (by decide +kernel) rfl ⟨Nat.le_of_ble_eq_true rfl, Nat.le_of_ble_eq_true rfl⟩ (⟨by (try dsimp only); omega, by (try dsimp only); omega⟩) (Nat.le_of_ble_eq_true rfl) [1, 2, 0] [3, 4] rfl rfl rfl (by decide) (by decide) (by decide) rfl dX0_take_106 (fun v_106 u_106 hu_106 => ?_)
          obtain ⟨rfl, rfl⟩ := hu_106
          refine k_to (ws' := [(r, .inr (1, [.int (nI mo), .ref a, .int (nI k)])), (a, .inl (cI, n, .inl f)), (o, .inr (0, [.ref aw, .ref ah])), (aw, .inl (cI, 16, .inl (upd (upd w2 14 (nI (8 * m))) 15 0))), (ah, .inl (cI, 4, .inl (mMix (upd (upd w2 14 (nI (8 * m))) 15 0) h1)))]) (st' := []) rfl rfl ?_
          refine k_iinc (v := nI (ci + 1)) (lv' := [(5, .int (nI (ci + 1))), (0, .ref o), (1, .ref r), (2, .int (nI x)), (3, .int (nI m)), (4, .int (nI ((m + 8) / 64 + 1)))]) X dX0_take_109 5 rfl (nI_1 _) (by decide) rfl ?_
          refine k_goto (tgt := 56) X dX0_take_112 (by decide) ?_
          refine k_lv (lv' := [(0, .ref o), (1, .ref r), (2, .int (nI x)), (3, .int (nI m)), (4, .int (nI ((m + 8) / 64 + 1))), (5, .int (nI (ci + 1)))]) [1, 2, 3, 4, 5, 0] rfl ?_
          refine k_sub (ws' := [(o, .inr (0, [.ref aw, .ref ah])), (aw, .inl (cI, 16, .inl (upd (upd w2 14 (nI (8 * m))) 15 0))), (ah, .inl (cI, 4, .inl (mMix (upd (upd w2 14 (nI (8 * m))) 15 0) h1))), (r, .inr (1, [.int (nI mo), .ref a, .int (nI k)])), (a, .inl (cI, n, .inl f))]) [2, 3, 4, 0, 1] (by decide) rfl rfl ?_
          refine k_wide (k := 0) (n := 0) (by (try dsimp only); omega) (by (try dsimp only); omega) ?_
          exact ih (ci + 1) (upd (upd w2 14 (nI (8 * m))) 15 0) (mMix (upd (upd w2 14 (nI (8 * m))) 15 0) h1) (⟨by omega, mMix_congr (fun j hj => mCh_last (by omega) hw2 j hj) hI.2⟩) (by omega)
      · refine k_callV (wc := [(o, .inr (0, [.ref aw, .ref ah])), (aw, .inl (cI, 16, .inl w1)), (r, .inr (1, [.int (nI mo), .ref a, .int (nI k)])), (a, .inl (cI, n, .inl f))]) (wr := [(ah, .inl (cI, 4, .inl h1))]) (As := [.ref r, .int (nI x), .int (nI m), .int (nI (64 * ci))]) (n := 4) (st := []) (q0 := 0) X (c_fillWords_z l D cI cB o aw ah w1 r a mo k n f x m (64 * ci) (by omega) (by omega) (by omega) (hxm) (hm) (by omega) (by omega)) rfl rfl ml_X0_28 im_X0_fillWords se_X0_fillWords ini_X0 co_X0_fillWords (by decide +kernel) rfl ⟨Nat.le_of_ble_eq_true rfl, Nat.le_of_ble_eq_true rfl⟩ (⟨by (try dsimp only); omega, by (try dsimp only); omega⟩) (Nat.le_of_ble_eq_true rfl) [0, 1, 3, 4] [2] rfl rfl rfl (by decide) (by decide) (by decide) rfl dX0_take_72 (fun v_72 u_72 hu_72 => ?_)
        obtain ⟨w2, rfl, rfl, hw2⟩ := hu_72
        refine k_to (ws' := [(ah, .inl (cI, 4, .inl h1)), (o, .inr (0, [.ref aw, .ref ah])), (aw, .inl (cI, 16, .inl w2)), (r, .inr (1, [.int (nI mo), .ref a, .int (nI k)])), (a, .inl (cI, n, .inl f))]) (st' := []) rfl rfl ?_
        refine k_iload X dX0_take_75 5 rfl ?_
        refine k_iload X dX0_take_77 4 rfl ?_
        refine k_iconst (v := 1) X dX0_take_79 (by decide) ?_
        refine k_isub X dX0_take_80 ?_
        refine k_as (y := nI ((m + 8) / 64)) (nI_pred _) ?_
        refine k_icmp_ne (tgt := 105) (xi := ((ci : Nat) : Int)) (yi := ((((m + 8) / 64) : Nat) : Int)) X (nI_toInt (by omega)) (nI_toInt (by omega)) dX0_take_81 (by decide) (fun c_81 => ?_) (fun c_81 => ?_)
        · refine k_aload_n X dX0_take_105 rfl 0 rfl ?_
          refine k_callV (wc := [(o, .inr (0, [.ref aw, .ref ah])), (aw, .inl (cI, 16, .inl w2)), (ah, .inl (cI, 4, .inl h1))]) (wr := [(r, .inr (1, [.int (nI mo), .ref a, .int (nI k)])), (a, .inl (cI, n, .inl f))]) (As := []) (n := 0) (st := []) (q0 := 0) X (c_mixWords l D cI cB o aw ah w2 h1 ) rfl rfl ml_X0_32 im_X0_mixWords se_X0_mixWords ini_X0 co_X0_mixWords (by decide +kernel) rfl ⟨Nat.le_of_ble_eq_true rfl, Nat.le_of_ble_eq_true rfl⟩ (⟨by (try dsimp only); omega, by (try dsimp only); omega⟩) (Nat.le_of_ble_eq_true rfl) [1, 2, 0] [3, 4] rfl rfl rfl (by decide) (by decide) (by decide) rfl dX0_take_106 (fun v_106 u_106 hu_106 => ?_)
          obtain ⟨rfl, rfl⟩ := hu_106
          refine k_to (ws' := [(r, .inr (1, [.int (nI mo), .ref a, .int (nI k)])), (a, .inl (cI, n, .inl f)), (o, .inr (0, [.ref aw, .ref ah])), (aw, .inl (cI, 16, .inl w2)), (ah, .inl (cI, 4, .inl (mMix w2 h1)))]) (st' := []) rfl rfl ?_
          refine k_iinc (v := nI (ci + 1)) (lv' := [(5, .int (nI (ci + 1))), (0, .ref o), (1, .ref r), (2, .int (nI x)), (3, .int (nI m)), (4, .int (nI ((m + 8) / 64 + 1)))]) X dX0_take_109 5 rfl (nI_1 _) (by decide) rfl ?_
          refine k_goto (tgt := 56) X dX0_take_112 (by decide) ?_
          refine k_lv (lv' := [(0, .ref o), (1, .ref r), (2, .int (nI x)), (3, .int (nI m)), (4, .int (nI ((m + 8) / 64 + 1))), (5, .int (nI (ci + 1)))]) [1, 2, 3, 4, 5, 0] rfl ?_
          refine k_sub (ws' := [(o, .inr (0, [.ref aw, .ref ah])), (aw, .inl (cI, 16, .inl w2)), (ah, .inl (cI, 4, .inl (mMix w2 h1))), (r, .inr (1, [.int (nI mo), .ref a, .int (nI k)])), (a, .inl (cI, n, .inl f))]) [2, 3, 4, 0, 1] (by decide) rfl rfl ?_
          refine k_wide (k := 0) (n := 0) (by (try dsimp only); omega) (by (try dsimp only); omega) ?_
          exact ih (ci + 1) w2 (mMix w2 h1) (⟨by omega, mMix_congr (fun j hj => mCh_mid (by omega) hw2 j hj) hI.2⟩) (by omega)
        · refine k_aload_n X dX0_take_84 rfl 0 rfl ?_
          refine k_get (v := .ref aw) X 1 0 0 rfl rfl (by decide) fl_X0_9 in_X0 rfl rfl dX0_take_85 ?_
          refine k_bipush (v := 14) X dX0_take_88 (by decide) ?_
          refine k_iload_n X dX0_take_90 rfl 3 rfl ?_
          refine k_iconst (v := 3) X dX0_take_91 (by decide) ?_
          refine k_ishl X dX0_take_92 ?_
          refine k_as (y := nI (8 * m)) (sh3 (by omega)) ?_
          refine k_iast (f' := upd w2 14 (nI (8 * m))) (ws' := [(ah, .inl (cI, 4, .inl h1)), (o, .inr (0, [.ref aw, .ref ah])), (aw, .inl (cI, 16, .inl (upd w2 14 (nI (8 * m))))), (r, .inr (1, [.int (nI mo), .ref a, .int (nI k)])), (a, .inl (cI, n, .inl f))]) X 2 rfl (vp_in_nI (n := 14) (by omega) (by omega)) (by rw [show ((14 : Int32).toNatClampNeg) = 14 from rfl]) rfl dX0_take_93 ?_
          refine k_aload_n X dX0_take_94 rfl 0 rfl ?_
          refine k_get (v := .ref aw) X 1 0 0 rfl rfl (by decide) fl_X0_9 in_X0 rfl rfl dX0_take_95 ?_
          refine k_bipush (v := 15) X dX0_take_98 (by decide) ?_
          refine k_iload_n X dX0_take_100 rfl 3 rfl ?_
          refine k_bipush (v := 29) X dX0_take_101 (by decide) ?_
          refine k_iushr (v := ((nI m).toUInt32 >>> (Int32.toUInt32 29 &&& Int32.toUInt32 31)).toInt32) X dX0_take_103 rfl ?_
          refine k_as (y := 0) (sh29 (by omega)) ?_
          refine k_iast (f' := upd (upd w2 14 (nI (8 * m))) 15 0) (ws' := [(ah, .inl (cI, 4, .inl h1)), (o, .inr (0, [.ref aw, .ref ah])), (aw, .inl (cI, 16, .inl (upd (upd w2 14 (nI (8 * m))) 15 0))), (r, .inr (1, [.int (nI mo), .ref a, .int (nI k)])), (a, .inl (cI, n, .inl f))]) X 2 rfl (vp_in_nI (n := 15) (by omega) (by omega)) (by rw [show ((15 : Int32).toNatClampNeg) = 15 from rfl]) rfl dX0_take_104 ?_
          refine k_aload_n X dX0_take_105 rfl 0 rfl ?_
          refine k_callV (wc := [(o, .inr (0, [.ref aw, .ref ah])), (aw, .inl (cI, 16, .inl (upd (upd w2 14 (nI (8 * m))) 15 0))), (ah, .inl (cI, 4, .inl h1))]) (wr := [(r, .inr (1, [.int (nI mo), .ref a, .int (nI k)])), (a, .inl (cI, n, .inl f))]) (As := []) (n := 0) (st := []) (q0 := 0) X (c_mixWords l D cI cB o aw ah (upd (upd w2 14 (nI (8 * m))) 15 0) h1 ) rfl rfl ml_X0_32 im_X0_mixWords se_X0_mixWords ini_X0 co_X0_mixWords (by decide +kernel) rfl ⟨Nat.le_of_ble_eq_true rfl, Nat.le_of_ble_eq_true rfl⟩ (⟨by (try dsimp only); omega, by (try dsimp only); omega⟩) (Nat.le_of_ble_eq_true rfl) [1, 2, 0] [3, 4] rfl rfl rfl (by decide) (by decide) (by decide) rfl dX0_take_106 (fun v_106 u_106 hu_106 => ?_)
          obtain ⟨rfl, rfl⟩ := hu_106
          refine k_to (ws' := [(r, .inr (1, [.int (nI mo), .ref a, .int (nI k)])), (a, .inl (cI, n, .inl f)), (o, .inr (0, [.ref aw, .ref ah])), (aw, .inl (cI, 16, .inl (upd (upd w2 14 (nI (8 * m))) 15 0))), (ah, .inl (cI, 4, .inl (mMix (upd (upd w2 14 (nI (8 * m))) 15 0) h1)))]) (st' := []) rfl rfl ?_
          refine k_iinc (v := nI (ci + 1)) (lv' := [(5, .int (nI (ci + 1))), (0, .ref o), (1, .ref r), (2, .int (nI x)), (3, .int (nI m)), (4, .int (nI ((m + 8) / 64 + 1)))]) X dX0_take_109 5 rfl (nI_1 _) (by decide) rfl ?_
          refine k_goto (tgt := 56) X dX0_take_112 (by decide) ?_
          refine k_lv (lv' := [(0, .ref o), (1, .ref r), (2, .int (nI x)), (3, .int (nI m)), (4, .int (nI ((m + 8) / 64 + 1))), (5, .int (nI (ci + 1)))]) [1, 2, 3, 4, 5, 0] rfl ?_
          refine k_sub (ws' := [(o, .inr (0, [.ref aw, .ref ah])), (aw, .inl (cI, 16, .inl (upd (upd w2 14 (nI (8 * m))) 15 0))), (ah, .inl (cI, 4, .inl (mMix (upd (upd w2 14 (nI (8 * m))) 15 0) h1))), (r, .inr (1, [.int (nI mo), .ref a, .int (nI k)])), (a, .inl (cI, n, .inl f))]) [2, 3, 4, 0, 1] (by decide) rfl rfl ?_
          refine k_wide (k := 0) (n := 0) (by (try dsimp only); omega) (by (try dsimp only); omega) ?_
          exact ih (ci + 1) (upd (upd w2 14 (nI (8 * m))) 15 0) (mMix (upd (upd w2 14 (nI (8 * m))) 15 0) h1) (⟨by omega, mMix_congr (fun j hj => mCh_last (by omega) hw2 j hj) hI.2⟩) (by omega)
  · exact absurd c_38 (by decide)
