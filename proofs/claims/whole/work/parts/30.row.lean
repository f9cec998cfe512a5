/-! pure words for Row -/
theorem i_of {x : Int32} {n : Nat} (h0 : 0 ≤ x.toInt) (h1 : x.toInt < n) : x.toNatClampNeg < n ∧ x = nI x.toNatClampNeg ∧ x.toInt = (x.toNatClampNeg : Int) := by
  have hlt : x.toInt < 2 ^ 31 := Int32.toInt_lt x
  have hc : (x.toNatClampNeg : Int) = x.toInt := by
    have : x.toNatClampNeg = x.toInt.toNat := rfl
    omega
  refine ⟨by omega, ?_, by omega⟩
  apply Int32.toInt_inj.mp
  rw [nI_toInt (by omega)]
  omega
theorem i_sub {a b : Int32} (h1 : -2147483648 ≤ a.toInt - b.toInt) (h2 : a.toInt - b.toInt < 2147483648) : (a - b).toInt = a.toInt - b.toInt := by
  rw [Int32.toInt_sub]
  exact Int.bmod_eq_of_le (by omega) (by omega)
theorem i_add {a b : Int32} (h1 : -2147483648 ≤ a.toInt + b.toInt) (h2 : a.toInt + b.toInt < 2147483648) : (a + b).toInt = a.toInt + b.toInt := by
  rw [Int32.toInt_add]
  exact Int.bmod_eq_of_le (by omega) (by omega)
def b2i (b : Bool) : Int32 := if b then 1 else 0
theorem b2i_t {q : Prop} [Decidable q] (h : q) : b2i (decide q) = 1 := by simp [b2i, h]
theorem b2i_f {q : Prop} [Decidable q] (h : ¬ q) : b2i (decide q) = 0 := by simp [b2i, h]
theorem b2i_nar (b : Bool) : narrow .boolean (.int (b2i b)) = .int (b2i b) := by cases b <;> rfl
/-- the bytes x .. x + y - 1 are there, of k -/
abbrev rHolds (x y : Int32) (k : Nat) : Prop := 0 ≤ x.toInt ∧ 0 ≤ y.toInt ∧ x.toInt + y.toInt ≤ k
abbrev rIn (i : Int32) (k : Nat) : Prop := 0 ≤ i.toInt ∧ i.toInt < k
abbrev rByte (b : Int32) : Prop := 0 ≤ b.toInt ∧ b.toInt ≤ 255
def rGet (f : Nat → Int32) (k : Nat) (i : Int32) : Int32 := if rIn i k then f i.toNatClampNeg else -1
theorem rGet_nI {f : Nat → Int32} {k j : Nat} (h : j < k) (hk : k ≤ 100000) : rGet f k (nI j) = f j := by
  have h1 : rIn (nI j) k := by rw [rIn, nI_toInt (by omega)]; omega
  rw [rGet, if_pos h1, nI_clamp (by omega)]
theorem rGet_out {f : Nat → Int32} {k : Nat} {i : Int32} (h : ¬ rIn i k) : rGet f k i = -1 := by rw [rGet, if_neg h]
theorem rHolds_iff {x y k : Nat} (hx : x < 2 ^ 30) (hy : y < 2 ^ 30) : rHolds (nI x) (nI y) k ↔ x + y ≤ k := by
  rw [rHolds, nI_toInt (by omega), nI_toInt (by omega)]; omega
theorem rByte_nI {b : Nat} (h : b < 256) : rByte (nI b) := by rw [rByte, nI_toInt (by omega)]; omega
theorem mnI {a b : Nat} (ha : a < 2 ^ 31) (hb : b < 2 ^ 31) : (if nI b < nI a then nI b else nI a) = nI (min a b) := by
  by_cases h : b < a
  · rw [if_pos (nI_lt h ha), Nat.min_eq_right (Nat.le_of_lt h)]
  · rw [if_neg (nI_nlt (by omega) hb), Nat.min_eq_left (by omega)]
theorem mxI {a b : Nat} (ha : a < 2 ^ 31) (hb : b < 2 ^ 31) : (if nI a < nI b then nI b else nI a) = nI (max a b) := by
  by_cases h : a < b
  · rw [if_pos (nI_lt h hb), Nat.max_eq_right (Nat.le_of_lt h)]
  · rw [if_neg (nI_nlt (by omega) ha), Nat.max_eq_left (by omega)]
/-- how many cells a row has when w are wanted; what that costs -/
def rCap (mo n w : Nat) : Nat := if w ≤ n then n else max w (min mo (2 * n))
def rCost (mo n w : Nat) : Nat := if w ≤ n then 0 else max w (min mo (2 * n))
def rSet (f : Nat → Int32) (k : Nat) (i b : Int32) : Nat → Int32 := if rIn i k ∧ rByte b then upd f i.toNatClampNeg b else f
def sA (f : Nat → Int32) (x : Nat) : Nat → Int32
  | 0 => 0
  | n + 1 => sA f x n + f (x + n)
def sB (f : Nat → Int32) (x : Nat) : Nat → Int32
  | 0 => 0
  | n + 1 => sB f x n + sA f x (n + 1)
def sJ (a b : Int32) : Int32 := (b <<< ((16 : Int32) &&& 31)) ||| (a &&& 65535)
def sSum (f : Nat → Int32) (x n : Nat) : Int32 := sJ (sA f x n) (sB f x n)
set_option maxHeartbeats 4000000 in
set_option maxRecDepth 100000 in
theorem c_length (l : Launch) (D : va_G) (cI cB : ClassId) (r : Nat) (a : Nat) (mo : Nat) (k : Nat)  : kC l yX1_length cX1_length 1 (some .int) 0 0 (0) (0) D cI cB [.ref r] [(r, .inr (1, [.int (nI mo), .ref a, .int (nI k)]))] (fun (vV : Option Value) (uU : va_W) => vV = some (.int (nI k)) ∧ uU = [(r, .inr (1, [.int (nI mo), .ref a, .int (nI k)]))]) := by
  refine k_entry (lv0 := [(0, .ref r)]) (by decide) (Nat.le_of_ble_eq_true rfl) rfl ?_
  intro zp ze zs zm zb zt zc zA X hr hin
  refine k_aload_n X dX1_length_0 rfl 0 rfl ?_
  refine k_get (v := .int (nI k)) X 0 1 2 rfl rfl (by decide) fl_X1_19 in_X1 rfl rfl dX1_length_1 ?_
  exact k_iret (u := [(r, .inr (1, [.int (nI mo), .ref a, .int (nI k)]))]) X hr [0] (by decide) rfl rfl (⟨rfl, rfl⟩) (by (try dsimp only); omega) (by (try dsimp only); omega) dX1_length_4
set_option maxHeartbeats 4000000 in
set_option maxRecDepth 100000 in
theorem c_room (l : Launch) (D : va_G) (cI cB : ClassId) (r : Nat) (a : Nat) (mo : Nat) (k : Nat) (hk : k ≤ mo) (hmo : mo ≤ 8000) : kC l yX1_room cX1_room 1 (some .int) 0 0 (0) (0) D cI cB [.ref r] [(r, .inr (1, [.int (nI mo), .ref a, .int (nI k)]))] (fun (vV : Option Value) (uU : va_W) => vV = some (.int (nI (mo - k))) ∧ uU = [(r, .inr (1, [.int (nI mo), .ref a, .int (nI k)]))]) := by
  refine k_entry (lv0 := [(0, .ref r)]) (by decide) (Nat.le_of_ble_eq_true rfl) rfl ?_
  intro zp ze zs zm zb zt zc zA X hr hin
  refine k_aload_n X dX1_room_0 rfl 0 rfl ?_
  refine k_get (v := .int (nI mo)) X 0 1 0 rfl rfl (by decide) fl_X1_9 in_X1 rfl rfl dX1_room_1 ?_
  refine k_aload_n X dX1_room_4 rfl 0 rfl ?_
  refine k_get (v := .int (nI k)) X 0 1 2 rfl rfl (by decide) fl_X1_19 in_X1 rfl rfl dX1_room_5 ?_
  refine k_isub X dX1_room_8 ?_
  refine k_as (y := nI (mo - k)) (pk_sub hk) ?_
  exact k_iret (u := [(r, .inr (1, [.int (nI mo), .ref a, .int (nI k)]))]) X hr [0] (by decide) rfl rfl (⟨rfl, rfl⟩) (by (try dsimp only); omega) (by (try dsimp only); omega) dX1_room_9
set_option maxHeartbeats 4000000 in
set_option maxRecDepth 100000 in
theorem c_clear (l : Launch) (D : va_G) (cI cB : ClassId) (r : Nat) (a : Nat) (mo : Nat) (k : Nat)  : kC l yX1_clear cX1_clear 1 none 0 0 (0) (0) D cI cB [.ref r] [(r, .inr (1, [.int (nI mo), .ref a, .int (nI k)]))] (fun (vV : Option Value) (uU : va_W) => vV = none ∧ uU = [(r, .inr (1, [.int (nI mo), .ref a, .int (nI 0)]))]) := by
  refine k_entry (lv0 := [(0, .ref r)]) (by decide) (Nat.le_of_ble_eq_true rfl) rfl ?_
  intro zp ze zs zm zb zt zc zA X hr hin
  refine k_aload_n X dX1_clear_0 rfl 0 rfl ?_
  refine k_iconst (v := 0) X dX1_clear_1 (by decide) ?_
  refine k_put (v := .int 0) (ty := .int) (ws' := [(r, .inr (1, [.int (nI mo), .ref a, .int 0]))]) X 0 1 2 tyX1 tyX1_ok nmX1 rfl rfl (by decide) fl_X1_19 in_X1 rfl rfl (by decide +kernel) rfl rfl (Nat.le_of_ble_eq_true rfl) rfl dX1_clear_2 ?_
  exact k_vret (u := [(r, .inr (1, [.int (nI mo), .ref a, .int 0]))]) X hr [0] (by decide) rfl rfl (⟨rfl, rfl⟩) (by (try dsimp only); omega) (by (try dsimp only); omega) dX1_clear_5
set_option maxHeartbeats 4000000 in
set_option maxRecDepth 100000 in
theorem c_isByte (l : Launch) (D : va_G) (cI cB : ClassId) (b : Int32)  : kC l yX1_isByte cX1_isByte 1 (some .boolean) 0 0 (0) (0) D cI cB [.int b] [] (fun (vV : Option Value) (uU : va_W) => vV = some (.int (b2i (decide (rByte b)))) ∧ uU = []) := by
  refine k_entry (lv0 := [(0, .int b)]) (by decide) (Nat.le_of_ble_eq_true rfl) rfl ?_
  intro zp ze zs zm zb zt zc zA X hr hin
  refine k_iload_n X dX1_isByte_0 rfl 0 rfl ?_
  refine k_if_lt (tgt := 15) (xi := b.toInt) X (rfl) dX1_isByte_1 (by decide) (fun c_1 => ?_) (fun c_1 => ?_)
  · refine k_iconst (v := 0) X dX1_isByte_15 (by decide) ?_
    exact k_zret (u := []) X (by first | rfl | exact b2i_nar _ | decide) hr [] (by decide) rfl rfl (⟨by rw [b2i_f (by omega)], rfl⟩) (by (try dsimp only); omega) (by (try dsimp only); omega) dX1_isByte_16
  · refine k_iload_n X dX1_isByte_4 rfl 0 rfl ?_
    refine k_sipush (v := 255) X dX1_isByte_5 (by decide) ?_
    refine k_icmp_gt (tgt := 15) (xi := b.toInt) (yi := (255 : Int)) X (rfl) (by decide) dX1_isByte_8 (by decide) (fun c_8 => ?_) (fun c_8 => ?_)
    · refine k_iconst (v := 0) X dX1_isByte_15 (by decide) ?_
      exact k_zret (u := []) X (by first | rfl | exact b2i_nar _ | decide) hr [] (by decide) rfl rfl (⟨by rw [b2i_f (by omega)], rfl⟩) (by (try dsimp only); omega) (by (try dsimp only); omega) dX1_isByte_16
    · refine k_iconst (v := 1) X dX1_isByte_11 (by decide) ?_
      refine k_goto (tgt := 16) X dX1_isByte_12 (by decide) ?_
      exact k_zret (u := []) X (by first | rfl | exact b2i_nar _ | decide) hr [] (by decide) rfl rfl (⟨by rw [b2i_t (by omega)], rfl⟩) (by (try dsimp only); omega) (by (try dsimp only); omega) dX1_isByte_16
set_option maxHeartbeats 4000000 in
set_option maxRecDepth 100000 in
theorem c_holds (l : Launch) (D : va_G) (cI cB : ClassId) (r : Nat) (a : Nat) (mo : Nat) (k : Nat) (x : Int32) (y : Int32) (hk : k ≤ 8000) : kC l yX1_holds cX1_holds 3 (some .boolean) 0 0 (0) (0) D cI cB [.ref r, .int x, .int y] [(r, .inr (1, [.int (nI mo), .ref a, .int (nI k)]))] (fun (vV : Option Value) (uU : va_W) => vV = some (.int (b2i (decide (rHolds x y k)))) ∧ uU = [(r, .inr (1, [.int (nI mo), .ref a, .int (nI k)]))]) := by
  refine k_entry (lv0 := [(0, .ref r), (1, .int x), (2, .int y)]) (by decide) (Nat.le_of_ble_eq_true rfl) rfl ?_
  intro zp ze zs zm zb zt zc zA X hr hin
  refine k_iload_n X dX1_holds_0 rfl 1 rfl ?_
  refine k_if_lt (tgt := 30) (xi := x.toInt) X (rfl) dX1_holds_1 (by decide) (fun c_1 => ?_) (fun c_1 => ?_)
  · refine k_iconst (v := 0) X dX1_holds_30 (by decide) ?_
    exact k_zret (u := [(r, .inr (1, [.int (nI mo), .ref a, .int (nI k)]))]) X (by first | rfl | exact b2i_nar _ | decide) hr [0] (by decide) rfl rfl (⟨by rw [b2i_f (by omega)], rfl⟩) (by (try dsimp only); omega) (by (try dsimp only); omega) dX1_holds_31
  · refine k_iload_n X dX1_holds_4 rfl 2 rfl ?_
    refine k_if_lt (tgt := 30) (xi := y.toInt) X (rfl) dX1_holds_5 (by decide) (fun c_5 => ?_) (fun c_5 => ?_)
    · refine k_iconst (v := 0) X dX1_holds_30 (by decide) ?_
      exact k_zret (u := [(r, .inr (1, [.int (nI mo), .ref a, .int (nI k)]))]) X (by first | rfl | exact b2i_nar _ | decide) hr [0] (by decide) rfl rfl (⟨by rw [b2i_f (by omega)], rfl⟩) (by (try dsimp only); omega) (by (try dsimp only); omega) dX1_holds_31
    · refine k_iload_n X dX1_holds_8 rfl 1 rfl ?_
      refine k_aload_n X dX1_holds_9 rfl 0 rfl ?_
      refine k_get (v := .int (nI k)) X 0 1 2 rfl rfl (by decide) fl_X1_19 in_X1 rfl rfl dX1_holds_10 ?_
      refine k_icmp_gt (tgt := 30) (xi := x.toInt) (yi := ((k : Nat) : Int)) X (rfl) (nI_toInt (by omega)) dX1_holds_13 (by decide) (fun c_13 => ?_) (fun c_13 => ?_)
      · refine k_iconst (v := 0) X dX1_holds_30 (by decide) ?_
        exact k_zret (u := [(r, .inr (1, [.int (nI mo), .ref a, .int (nI k)]))]) X (by first | rfl | exact b2i_nar _ | decide) hr [0] (by decide) rfl rfl (⟨by rw [b2i_f (by omega)], rfl⟩) (by (try dsimp only); omega) (by (try dsimp only); omega) dX1_holds_31
      · refine k_iload_n X dX1_holds_16 rfl 2 rfl ?_
        refine k_aload_n X dX1_holds_17 rfl 0 rfl ?_
        refine k_get (v := .int (nI k)) X 0 1 2 rfl rfl (by decide) fl_X1_19 in_X1 rfl rfl dX1_holds_18 ?_
        refine k_iload_n X dX1_holds_21 rfl 1 rfl ?_
        refine k_isub X dX1_holds_22 ?_
        refine k_icmp_gt (tgt := 30) (xi := y.toInt) (yi := ((k : Nat) : Int) - x.toInt) X (rfl) (by rw [i_sub (by rw [nI_toInt (by omega)]; omega) (by rw [nI_toInt (by omega)]; omega), nI_toInt (by omega)]) dX1_holds_23 (by decide) (fun c_23 => ?_) (fun c_23 => ?_)
        · refine k_iconst (v := 0) X dX1_holds_30 (by decide) ?_
          exact k_zret (u := [(r, .inr (1, [.int (nI mo), .ref a, .int (nI k)]))]) X (by first | rfl | exact b2i_nar _ | decide) hr [0] (by decide) rfl rfl (⟨by rw [b2i_f (by omega)], rfl⟩) (by (try dsimp only); omega) (by (try dsimp only); omega) dX1_holds_31
        · refine k_iconst (v := 1) X dX1_holds_26 (by decide) ?_
          refine k_goto (tgt := 31) X dX1_holds_27 (by decide) ?_
          exact k_zret (u := [(r, .inr (1, [.int (nI mo), .ref a, .int (nI k)]))]) X (by first | rfl | exact b2i_nar _ | decide) hr [0] (by decide) rfl rfl (⟨by rw [b2i_t (by omega)], rfl⟩) (by (try dsimp only); omega) (by (try dsimp only); omega) dX1_holds_31
set_option maxHeartbeats 4000000 in
set_option maxRecDepth 100000 in
theorem c_get (l : Launch) (D : va_G) (cI cB : ClassId) (r : Nat) (a : Nat) (mo : Nat) (k : Nat) (n : Nat) (f : Nat → Int32) (i : Int32) (hk : k ≤ n) (hn : n ≤ mo) (hmo : mo ≤ 8000) : kC l yX1_get cX1_get 2 (some .int) 0 0 (0) (0) D cI cB [.ref r, .int i] [(r, .inr (1, [.int (nI mo), .ref a, .int (nI k)])), (a, .inl (cI, n, .inl f))] (fun (vV : Option Value) (uU : va_W) => vV = some (.int (rGet f k i)) ∧ uU = [(r, .inr (1, [.int (nI mo), .ref a, .int (nI k)])), (a, .inl (cI, n, .inl f))]) := by
  refine k_entry (lv0 := [(0, .ref r), (1, .int i)]) (by decide) (Nat.le_of_ble_eq_true rfl) rfl ?_
  intro zp ze zs zm zb zt zc zA X hr hin
  refine k_iload_n X dX1_get_0 rfl 1 rfl ?_
  refine k_if_lt (tgt := 21) (xi := i.toInt) X (rfl) dX1_get_1 (by decide) (fun c_1 => ?_) (fun c_1 => ?_)
  · refine k_iconst (v := -1) X dX1_get_21 (by decide) ?_
    exact k_iret (u := [(r, .inr (1, [.int (nI mo), .ref a, .int (nI k)])), (a, .inl (cI, n, .inl f))]) X hr [0, 1] (by decide) rfl rfl (⟨by rw [rGet_out (by omega)], rfl⟩) (by (try dsimp only); omega) (by (try dsimp only); omega) dX1_get_22
  · refine k_iload_n X dX1_get_4 rfl 1 rfl ?_
    refine k_aload_n X dX1_get_5 rfl 0 rfl ?_
    refine k_get (v := .int (nI k)) X 0 1 2 rfl rfl (by decide) fl_X1_19 in_X1 rfl rfl dX1_get_6 ?_
    refine k_icmp_ge (tgt := 21) (xi := i.toInt) (yi := ((k : Nat) : Int)) X (rfl) (nI_toInt (by omega)) dX1_get_9 (by decide) (fun c_9 => ?_) (fun c_9 => ?_)
    · refine k_iconst (v := -1) X dX1_get_21 (by decide) ?_
      exact k_iret (u := [(r, .inr (1, [.int (nI mo), .ref a, .int (nI k)])), (a, .inl (cI, n, .inl f))]) X hr [0, 1] (by decide) rfl rfl (⟨by rw [rGet_out (by omega)], rfl⟩) (by (try dsimp only); omega) (by (try dsimp only); omega) dX1_get_22
    · refine k_aload_n X dX1_get_12 rfl 0 rfl ?_
      refine k_get (v := .ref a) X 0 1 1 rfl rfl (by decide) fl_X1_15 in_X1 rfl rfl dX1_get_13 ?_
      refine k_iload_n X dX1_get_16 rfl 1 rfl ?_
      refine k_iald (v := f i.toNatClampNeg) X 1 rfl (vp_in_iff.mpr ⟨by omega, by omega⟩) (rfl) dX1_get_17 ?_
      refine k_goto (tgt := 22) X dX1_get_18 (by decide) ?_
      exact k_iret (u := [(r, .inr (1, [.int (nI mo), .ref a, .int (nI k)])), (a, .inl (cI, n, .inl f))]) X hr [0, 1] (by decide) rfl rfl (⟨by rw [rGet, if_pos (by omega)], rfl⟩) (by (try dsimp only); omega) (by (try dsimp only); omega) dX1_get_22
set_option maxHeartbeats 4000000 in
set_option maxRecDepth 100000 in
theorem c_set (l : Launch) (D : va_G) (cI cB : ClassId) (r : Nat) (a : Nat) (mo : Nat) (k : Nat) (n : Nat) (f : Nat → Int32) (i : Int32) (b : Int32) (hk : k ≤ n) (hn : n ≤ mo) (hmo : mo ≤ 8000) : kC l yX1_set cX1_set 3 (some .boolean) 1 20 (0) (0) D cI cB [.ref r, .int i, .int b] [(r, .inr (1, [.int (nI mo), .ref a, .int (nI k)])), (a, .inl (cI, n, .inl f))] (fun (vV : Option Value) (uU : va_W) => vV = some (.int (b2i (decide (rIn i k ∧ rByte b)))) ∧ uU = [(r, .inr (1, [.int (nI mo), .ref a, .int (nI k)])), (a, .inl (cI, n, .inl (rSet f k i b)))]) := by
  refine k_entry (lv0 := [(0, .ref r), (1, .int i), (2, .int b)]) (by decide) (Nat.le_of_ble_eq_true rfl) rfl ?_
  intro zp ze zs zm zb zt zc zA X hr hin
  refine k_iload_n X dX1_set_0 rfl 1 rfl ?_
  refine k_if_lt (tgt := 19) (xi := i.toInt) X (rfl) dX1_set_1 (by decide) (fun c_1 => ?_) (fun c_1 => ?_)
  · refine k_iconst (v := 0) X dX1_set_19 (by decide) ?_
    exact k_zret (u := [(r, .inr (1, [.int (nI mo), .ref a, .int (nI k)])), (a, .inl (cI, n, .inl f))]) X (by first | rfl | exact b2i_nar _ | decide) hr [0, 1] (by decide) rfl rfl (⟨by rw [b2i_f (by omega)], by rw [rSet, if_neg (by omega)]⟩) (by (try dsimp only); omega) (by (try dsimp only); omega) dX1_set_20
  · refine k_iload_n X dX1_set_4 rfl 1 rfl ?_
    refine k_aload_n X dX1_set_5 rfl 0 rfl ?_
    refine k_get (v := .int (nI k)) X 0 1 2 rfl rfl (by decide) fl_X1_19 in_X1 rfl rfl dX1_set_6 ?_
    refine k_icmp_ge (tgt := 19) (xi := i.toInt) (yi := ((k : Nat) : Int)) X (rfl) (nI_toInt (by omega)) dX1_set_9 (by decide) (fun c_9 => ?_) (fun c_9 => ?_)
    · refine k_iconst (v := 0) X dX1_set_19 (by decide) ?_
      exact k_zret (u := [(r, .inr (1, [.int (nI mo), .ref a, .int (nI k)])), (a, .inl (cI, n, .inl f))]) X (by first | rfl | exact b2i_nar _ | decide) hr [0, 1] (by decide) rfl rfl (⟨by rw [b2i_f (by omega)], by rw [rSet, if_neg (by omega)]⟩) (by (try dsimp only); omega) (by (try dsimp only); omega) dX1_set_20
    · refine k_iload_n X dX1_set_12 rfl 2 rfl ?_
      refine k_callS (wc := []) (wr := [(r, .inr (1, [.int (nI mo), .ref a, .int (nI k)])), (a, .inl (cI, n, .inl f))]) (As := [.int b]) (n := 1) (st := []) X (c_isByte l D cI cB b ) ml_X1_22 sm_X1_isByte ini_X1 co_X1_isByte (by decide +kernel) rfl ⟨Nat.le_of_ble_eq_true rfl, Nat.le_of_ble_eq_true rfl⟩ (⟨by (try dsimp only); omega, by (try dsimp only); omega⟩) (Nat.le_of_ble_eq_true rfl) [] [0, 1] rfl rfl rfl (by decide) (by decide) (by decide) rfl dX1_set_13 (fun v_13 u_13 hu_13 => ?_)
      obtain ⟨rfl, rfl⟩ := hu_13
      refine k_to (ws' := [(r, .inr (1, [.int (nI mo), .ref a, .int (nI k)])), (a, .inl (cI, n, .inl f))]) (st' := [.int (b2i (decide (rByte b)))]) rfl rfl ?_
      by_cases hb : rByte b
      · refine k_as (y := 1) (b2i_t hb) ?_
        refine k_if_ne (tgt := 21) (xi := (1 : Int)) X (by decide) dX1_set_16 (by decide) (fun c_16 => ?_) (fun c_16 => ?_)
        · refine k_aload_n X dX1_set_21 rfl 0 rfl ?_
          refine k_get (v := .ref a) X 0 1 1 rfl rfl (by decide) fl_X1_15 in_X1 rfl rfl dX1_set_22 ?_
          refine k_iload_n X dX1_set_25 rfl 1 rfl ?_
          refine k_iload_n X dX1_set_26 rfl 2 rfl ?_
          refine k_iast (f' := upd f i.toNatClampNeg b) (ws' := [(r, .inr (1, [.int (nI mo), .ref a, .int (nI k)])), (a, .inl (cI, n, .inl (upd f i.toNatClampNeg b)))]) X 1 rfl (vp_in_iff.mpr ⟨by omega, by omega⟩) (rfl) rfl dX1_set_27 ?_
          refine k_iconst (v := 1) X dX1_set_28 (by decide) ?_
          exact k_zret (u := [(r, .inr (1, [.int (nI mo), .ref a, .int (nI k)])), (a, .inl (cI, n, .inl (upd f i.toNatClampNeg b)))]) X (by first | rfl | exact b2i_nar _ | decide) hr [0, 1] (by decide) rfl rfl (⟨by rw [b2i_t (by omega)], by rw [rSet, if_pos (by omega)]⟩) (by (try dsimp only); omega) (by (try dsimp only); omega) dX1_set_29
        · exact absurd c_16 (by decide)
      · refine k_as (y := 0) (b2i_f hb) ?_
        refine k_if_ne (tgt := 21) (xi := (0 : Int)) X (by decide) dX1_set_16 (by decide) (fun c_16 => ?_) (fun c_16 => ?_)
        · exact absurd c_16 (by decide)
        · refine k_iconst (v := 0) X dX1_set_19 (by decide) ?_
          exact k_zret (u := [(r, .inr (1, [.int (nI mo), .ref a, .int (nI k)])), (a, .inl (cI, n, .inl f))]) X (by first | rfl | exact b2i_nar _ | decide) hr [0, 1] (by decide) rfl rfl (⟨by rw [b2i_f (by omega)], by rw [rSet, if_neg (by omega)]⟩) (by (try dsimp only); omega) (by (try dsimp only); omega) dX1_set_20
set_option maxHeartbeats 4000000 in
set_option maxRecDepth 100000 in
theorem c_shorten (l : Launch) (D : va_G) (cI cB : ClassId) (r : Nat) (a : Nat) (mo : Nat) (k : Nat) (x : Int32) (hk : k ≤ 8000) : kC l yX1_shorten cX1_shorten 2 (some .boolean) 0 0 (0) (0) D cI cB [.ref r, .int x] [(r, .inr (1, [.int (nI mo), .ref a, .int (nI k)]))] (fun (vV : Option Value) (uU : va_W) => vV = some (.int (b2i (decide (0 ≤ x.toInt ∧ x.toInt ≤ k)))) ∧ uU = [(r, .inr (1, [.int (nI mo), .ref a, .int (nI (if 0 ≤ x.toInt ∧ x.toInt ≤ k then x.toNatClampNeg else k))]))]) := by
  refine k_entry (lv0 := [(0, .ref r), (1, .int x)]) (by decide) (Nat.le_of_ble_eq_true rfl) rfl ?_
  intro zp ze zs zm zb zt zc zA X hr hin
  refine k_iload_n X dX1_shorten_0 rfl 1 rfl ?_
  refine k_if_lt (tgt := 12) (xi := x.toInt) X (rfl) dX1_shorten_1 (by decide) (fun c_1 => ?_) (fun c_1 => ?_)
  · refine k_iconst (v := 0) X dX1_shorten_12 (by decide) ?_
    exact k_zret (u := [(r, .inr (1, [.int (nI mo), .ref a, .int (nI k)]))]) X (by first | rfl | exact b2i_nar _ | decide) hr [0] (by decide) rfl rfl (⟨by rw [b2i_f (by omega)], by rw [if_neg (by omega)]⟩) (by (try dsimp only); omega) (by (try dsimp only); omega) dX1_shorten_13
  · refine k_iload_n X dX1_shorten_4 rfl 1 rfl ?_
    refine k_aload_n X dX1_shorten_5 rfl 0 rfl ?_
    refine k_get (v := .int (nI k)) X 0 1 2 rfl rfl (by decide) fl_X1_19 in_X1 rfl rfl dX1_shorten_6 ?_
    refine k_icmp_le (tgt := 14) (xi := x.toInt) (yi := ((k : Nat) : Int)) X (rfl) (nI_toInt (by omega)) dX1_shorten_9 (by decide) (fun c_9 => ?_) (fun c_9 => ?_)
    · refine k_aload_n X dX1_shorten_14 rfl 0 rfl ?_
      refine k_iload_n X dX1_shorten_15 rfl 1 rfl ?_
      refine k_as (y := nI x.toNatClampNeg) ((i_of (n := k + 1) (by omega) (by omega)).2.1) ?_
      refine k_put (v := .int (nI x.toNatClampNeg)) (ty := .int) (ws' := [(r, .inr (1, [.int (nI mo), .ref a, .int (nI x.toNatClampNeg)]))]) X 0 1 2 tyX1 tyX1_ok nmX1 rfl rfl (by decide) fl_X1_19 in_X1 rfl rfl (by decide +kernel) rfl rfl (Nat.le_of_ble_eq_true rfl) rfl dX1_shorten_16 ?_
      refine k_iconst (v := 1) X dX1_shorten_19 (by decide) ?_
      exact k_zret (u := [(r, .inr (1, [.int (nI mo), .ref a, .int (nI x.toNatClampNeg)]))]) X (by first | rfl | exact b2i_nar _ | decide) hr [0] (by decide) rfl rfl (⟨by rw [b2i_t (by omega)], by rw [if_pos (by omega)]⟩) (by (try dsimp only); omega) (by (try dsimp only); omega) dX1_shorten_20
    · refine k_iconst (v := 0) X dX1_shorten_12 (by decide) ?_
      exact k_zret (u := [(r, .inr (1, [.int (nI mo), .ref a, .int (nI k)]))]) X (by first | rfl | exact b2i_nar _ | decide) hr [0] (by decide) rfl rfl (⟨by rw [b2i_f (by omega)], by rw [if_neg (by omega)]⟩) (by (try dsimp only); omega) (by (try dsimp only); omega) dX1_shorten_13
set_option maxHeartbeats 4000000 in
set_option maxRecDepth 100000 in
theorem c_joined (l : Launch) (D : va_G) (cI cB : ClassId) (x : Int32) (y : Int32)  : kC l yX1_joined cX1_joined 2 (some .int) 0 0 (0) (0) D cI cB [.int x, .int y] [] (fun (vV : Option Value) (uU : va_W) => vV = some (.int (sJ x y)) ∧ uU = []) := by
  refine k_entry (lv0 := [(0, .int x), (1, .int y)]) (by decide) (Nat.le_of_ble_eq_true rfl) rfl ?_
  intro zp ze zs zm zb zt zc zA X hr hin
  refine k_iload_n X dX1_joined_0 rfl 1 rfl ?_
  refine k_bipush (v := 16) X dX1_joined_1 (by decide) ?_
  refine k_ishl X dX1_joined_3 ?_
  refine k_iload_n X dX1_joined_4 rfl 0 rfl ?_
  refine k_ldc X kc_X1_48 dX1_joined_5 ?_
  refine k_iand X dX1_joined_7 ?_
  refine k_ior X dX1_joined_8 ?_
  refine k_as (y := sJ x y) (rfl) ?_
  exact k_iret (u := []) X hr [] (by decide) rfl rfl (⟨rfl, rfl⟩) (by (try dsimp only); omega) (by (try dsimp only); omega) dX1_joined_9
set_option maxHeartbeats 4000000 in
set_option maxRecDepth 100000 in
theorem c_sumFrom (l : Launch) (D : va_G) (cI cB : ClassId) (r : Nat) (a : Nat) (mo : Nat) (k : Nat) (n : Nat) (f : Nat → Int32) (x : Nat) (y : Nat) (hk : k ≤ n) (hn : n ≤ mo) (hmo : mo ≤ 8000) (hxy : x + y ≤ k) : kC l yX1_sumFrom cX1_sumFrom 6 (some .int) 1 22 (0) (0) D cI cB [.ref r, .int (nI x), .int (nI y)] [(r, .inr (1, [.int (nI mo), .ref a, .int (nI k)])), (a, .inl (cI, n, .inl f))] (fun (vV : Option Value) (uU : va_W) => vV = some (.int (sSum f x y)) ∧ uU = [(r, .inr (1, [.int (nI mo), .ref a, .int (nI k)])), (a, .inl (cI, n, .inl f))]) := by
  refine k_entry (lv0 := [(0, .ref r), (1, .int (nI x)), (2, .int (nI y))]) (by decide) (Nat.le_of_ble_eq_true rfl) rfl ?_
  intro zp ze zs zm zb zt zc zA X hr hin
  refine k_aload_n X dX1_sumFrom_0 rfl 0 rfl ?_
  refine k_iload_n X dX1_sumFrom_1 rfl 1 rfl ?_
  refine k_iload_n X dX1_sumFrom_2 rfl 2 rfl ?_
  refine k_callV (wc := [(r, .inr (1, [.int (nI mo), .ref a, .int (nI k)]))]) (wr := [(a, .inl (cI, n, .inl f))]) (As := [.int (nI x), .int (nI y)]) (n := 2) (st := []) (q0 := 0) X (c_holds l D cI cB r a mo k (nI x) (nI y) (by omega)) rfl rfl ml_X1_30 im_X1_holds se_X1_holds ini_X1 co_X1_holds (by decide +kernel) rfl ⟨Nat.le_of_ble_eq_true rfl, Nat.le_of_ble_eq_true rfl⟩ (⟨by (try dsimp only); omega, by (try dsimp only); omega⟩) (Nat.le_of_ble_eq_true rfl) [0] [1] rfl rfl rfl (by decide) (by decide) (by decide) rfl dX1_sumFrom_3 (fun v_3 u_3 hu_3 => ?_)
  obtain ⟨rfl, rfl⟩ := hu_3
  refine k_to (ws' := [(a, .inl (cI, n, .inl f)), (r, .inr (1, [.int (nI mo), .ref a, .int (nI k)]))]) (st' := [.int (b2i (decide (rHolds (nI x) (nI y) k)))]) rfl rfl ?_
  refine k_as (y := 1) (b2i_t ((rHolds_iff (by omega) (by omega)).mpr hxy)) ?_
  refine k_if_ne (tgt := 11) (xi := (1 : Int)) X (by decide) dX1_sumFrom_6 (by decide) (fun c_6 => ?_) (fun c_6 => ?_)
  · refine k_iconst (v := 0) X dX1_sumFrom_11 (by decide) ?_
    refine k_istore_n (lv' := [(3, .int 0), (0, .ref r), (1, .int (nI x)), (2, .int (nI y))]) X dX1_sumFrom_12 rfl (by decide) rfl ?_
    refine k_iconst (v := 0) X dX1_sumFrom_13 (by decide) ?_
    refine k_istore (lv' := [(4, .int 0), (3, .int 0), (0, .ref r), (1, .int (nI x)), (2, .int (nI y))]) X dX1_sumFrom_14 (by decide) rfl ?_
    refine k_iconst (v := 0) X dX1_sumFrom_16 (by decide) ?_
    refine k_istore (lv' := [(5, .int 0), (4, .int 0), (3, .int 0), (0, .ref r), (1, .int (nI x)), (2, .int (nI y))]) X dX1_sumFrom_17 (by decide) rfl ?_
    refine k_lv (lv' := [(0, .ref r), (1, .int (nI x)), (2, .int (nI y)), (3, .int (sA f x 0)), (4, .int (sB f x 0)), (5, .int (nI 0))]) [3, 4, 5, 2, 1, 0] rfl ?_
    refine k_wide (k := 0) (n := 0) (by (try dsimp only); omega) (by (try dsimp only); omega) ?_
    refine k_loop1 (pc1 := 19) (cl := fun (i : Nat) => 0) (sl := fun (i : Nat) => 0) (wsf := fun (i : Nat) => [(a, .inl (cI, n, .inl f)), (r, .inr (1, [.int (nI mo), .ref a, .int (nI k)]))]) (lvf := fun (i : Nat) => [(0, .ref r), (1, .int (nI x)), (2, .int (nI y)), (3, .int (sA f x i)), (4, .int (sB f x i)), (5, .int (nI i))]) (stf := fun (i : Nat) => []) (I := fun (i : Nat) => i ≤ y) (mu := fun (i : Nat) => y - i) ?_ 0 (Nat.zero_le _)
    intro i hI ih
    try dsimp only at hI ih
    try dsimp only
    refine k_iload X dX1_sumFrom_19 5 rfl ?_
    refine k_iload_n X dX1_sumFrom_21 rfl 2 rfl ?_
    refine k_icmp_ge (tgt := 49) (xi := ((i : Nat) : Int)) (yi := ((y : Nat) : Int)) X (nI_toInt (by omega)) (nI_toInt (by omega)) dX1_sumFrom_22 (by decide) (fun c_22 => ?_) (fun c_22 => ?_)
    · refine k_iload_n X dX1_sumFrom_49 rfl 3 rfl ?_
      refine k_iload X dX1_sumFrom_50 4 rfl ?_
      refine k_callS (wc := []) (wr := [(a, .inl (cI, n, .inl f)), (r, .inr (1, [.int (nI mo), .ref a, .int (nI k)]))]) (As := [.int (sA f x i), .int (sB f x i)]) (n := 2) (st := []) X (c_joined l D cI cB (sA f x i) (sB f x i) ) ml_X1_44 sm_X1_joined ini_X1 co_X1_joined (by decide +kernel) rfl ⟨Nat.le_of_ble_eq_true rfl, Nat.le_of_ble_eq_true rfl⟩ (⟨by (try dsimp only); omega, by (try dsimp only); omega⟩) (Nat.le_of_ble_eq_true rfl) [] [0, 1] rfl rfl rfl (by decide) (by decide) (by decide) rfl dX1_sumFrom_52 (fun v_52 u_52 hu_52 => ?_)
      obtain ⟨rfl, rfl⟩ := hu_52
      refine k_to (ws' := [(a, .inl (cI, n, .inl f)), (r, .inr (1, [.int (nI mo), .ref a, .int (nI k)]))]) (st' := [.int (sJ (sA f x i) (sB f x i))]) rfl rfl ?_
      refine k_as (y := sSum f x y) (by rw [show i = y by omega]; rfl) ?_
      exact k_iret (u := [(r, .inr (1, [.int (nI mo), .ref a, .int (nI k)])), (a, .inl (cI, n, .inl f))]) X hr [1, 0] (by decide) rfl rfl (⟨rfl, rfl⟩) (by (try dsimp only); omega) (by (try dsimp only); omega) dX1_sumFrom_55
    · refine k_iload_n X dX1_sumFrom_25 rfl 3 rfl ?_
      refine k_aload_n X dX1_sumFrom_26 rfl 0 rfl ?_
      refine k_get (v := .ref a) X 1 1 1 rfl rfl (by decide) fl_X1_15 in_X1 rfl rfl dX1_sumFrom_27 ?_
      refine k_iload_n X dX1_sumFrom_30 rfl 1 rfl ?_
      refine k_iload X dX1_sumFrom_31 5 rfl ?_
      refine k_iadd X dX1_sumFrom_33 ?_
      refine k_as (y := nI (x + i)) (nI_add _ _) ?_
      refine k_iald (v := f (x + i)) X 0 rfl (vp_in_nI (n := x + i) (by omega) (by omega)) (by rw [nI_clamp (n := x + i) (by omega)]) dX1_sumFrom_34 ?_
      refine k_iadd X dX1_sumFrom_35 ?_
      refine k_as (y := sA f x (i + 1)) (rfl) ?_
      refine k_istore_n (lv' := [(3, .int (sA f x (i + 1))), (0, .ref r), (1, .int (nI x)), (2, .int (nI y)), (4, .int (sB f x i)), (5, .int (nI i))]) X dX1_sumFrom_36 rfl (by decide) rfl ?_
      refine k_iload X dX1_sumFrom_37 4 rfl ?_
      refine k_iload_n X dX1_sumFrom_39 rfl 0 rfl ?_
      refine k_iadd X dX1_sumFrom_40 ?_
      refine k_as (y := sB f x (i + 1)) (rfl) ?_
      refine k_istore (lv' := [(4, .int (sB f x (i + 1))), (3, .int (sA f x (i + 1))), (0, .ref r), (1, .int (nI x)), (2, .int (nI y)), (5, .int (nI i))]) X dX1_sumFrom_41 (by decide) rfl ?_
      refine k_iinc (v := nI (i + 1)) (lv' := [(5, .int (nI (i + 1))), (4, .int (sB f x (i + 1))), (3, .int (sA f x (i + 1))), (0, .ref r), (1, .int (nI x)), (2, .int (nI y))]) X dX1_sumFrom_43 5 rfl (nI_1 _) (by decide) rfl ?_
      refine k_goto (tgt := 19) X dX1_sumFrom_46 (by decide) ?_
      refine k_lv (lv' := [(0, .ref r), (1, .int (nI x)), (2, .int (nI y)), (3, .int (sA f x (i + 1))), (4, .int (sB f x (i + 1))), (5, .int (nI (i + 1)))]) [3, 4, 5, 2, 1, 0] rfl ?_
      refine k_sub (ws' := [(a, .inl (cI, n, .inl f)), (r, .inr (1, [.int (nI mo), .ref a, .int (nI k)]))]) [0, 1] (by decide) rfl rfl ?_
      refine k_wide (k := 0) (n := 0) (by (try dsimp only); omega) (by (try dsimp only); omega) ?_
      exact ih (i + 1) (by omega) (by omega)
  · exact absurd c_6 (by decide)
set_option maxHeartbeats 4000000 in
set_option maxRecDepth 100000 in
theorem c_sumFrom_f (l : Launch) (D : va_G) (cI cB : ClassId) (r : Nat) (a : Nat) (mo : Nat) (k : Nat) (x : Int32) (y : Int32) (hk : k ≤ 8000) (hxy : ¬ rHolds x y k) : kC l yX1_sumFrom cX1_sumFrom 6 (some .int) 1 22 (0) (0) D cI cB [.ref r, .int x, .int y] [(r, .inr (1, [.int (nI mo), .ref a, .int (nI k)]))] (fun (vV : Option Value) (uU : va_W) => vV = some (.int 0) ∧ uU = [(r, .inr (1, [.int (nI mo), .ref a, .int (nI k)]))]) := by
  refine k_entry (lv0 := [(0, .ref r), (1, .int x), (2, .int y)]) (by decide) (Nat.le_of_ble_eq_true rfl) rfl ?_
  intro zp ze zs zm zb zt zc zA X hr hin
  refine k_aload_n X dX1_sumFrom_0 rfl 0 rfl ?_
  refine k_iload_n X dX1_sumFrom_1 rfl 1 rfl ?_
  refine k_iload_n X dX1_sumFrom_2 rfl 2 rfl ?_
  refine k_callV (wc := [(r, .inr (1, [.int (nI mo), .ref a, .int (nI k)]))]) (wr := []) (As := [.int x, .int y]) (n := 2) (st := []) (q0 := 0) X (c_holds l D cI cB r a mo k x y (by omega)) rfl rfl ml_X1_30 im_X1_holds se_X1_holds ini_X1 co_X1_holds (by decide +kernel) rfl ⟨Nat.le_of_ble_eq_true rfl, Nat.le_of_ble_eq_true rfl⟩ (⟨by (try dsimp only); omega, by (try dsimp only); omega⟩) (Nat.le_of_ble_eq_true rfl) [0] [] rfl rfl rfl (by decide) (by decide) (by decide) rfl dX1_sumFrom_3 (fun v_3 u_3 hu_3 => ?_)
  obtain ⟨rfl, rfl⟩ := hu_3
  refine k_to (ws' := [(r, .inr (1, [.int (nI mo), .ref a, .int (nI k)]))]) (st' := [.int (b2i (decide (rHolds x y k)))]) rfl rfl ?_
  refine k_as (y := 0) (b2i_f hxy) ?_
  refine k_if_ne (tgt := 11) (xi := (0 : Int)) X (by decide) dX1_sumFrom_6 (by decide) (fun c_6 => ?_) (fun c_6 => ?_)
  · exact absurd c_6 (by decide)
  · refine k_iconst (v := 0) X dX1_sumFrom_9 (by decide) ?_
    exact k_iret (u := [(r, .inr (1, [.int (nI mo), .ref a, .int (nI k)]))]) X hr [0] (by decide) rfl rfl (⟨rfl, rfl⟩) (by (try dsimp only); omega) (by (try dsimp only); omega) dX1_sumFrom_10
set_option maxHeartbeats 4000000 in
set_option maxRecDepth 100000 in
theorem c_equalTo (l : Launch) (D : va_G) (cI cB : ClassId) (r : Nat) (a : Nat) (mo : Nat) (k : Nat) (n : Nat) (f : Nat → Int32) (r2 : Nat) (a2 : Nat) (mo2 : Nat) (k2 : Nat) (n2 : Nat) (f2 : Nat → Int32) (hk : k ≤ n) (hn : n ≤ mo) (hmo : mo ≤ 8000) (hk2 : k2 ≤ n2) (hn2 : n2 ≤ 8000) : kC l yX1_equalTo cX1_equalTo 3 (some .boolean) 0 0 (0) (0) D cI cB [.ref r, .ref r2] [(r, .inr (1, [.int (nI mo), .ref a, .int (nI k)])), (a, .inl (cI, n, .inl f)), (r2, .inr (1, [.int (nI mo2), .ref a2, .int (nI k2)])), (a2, .inl (cI, n2, .inl f2))] (fun (vV : Option Value) (uU : va_W) => ∃ (bb : Bool), vV = some (.int (b2i bb)) ∧ uU = [(r, .inr (1, [.int (nI mo), .ref a, .int (nI k)])), (a, .inl (cI, n, .inl f)), (r2, .inr (1, [.int (nI mo2), .ref a2, .int (nI k2)])), (a2, .inl (cI, n2, .inl f2))] ∧ (bb = true ↔ (k = k2 ∧ ∀ j, j < k → f j = f2 j))) := by
  refine k_entry (lv0 := [(0, .ref r), (1, .ref r2)]) (by decide) (Nat.le_of_ble_eq_true rfl) rfl ?_
  intro zp ze zs zm zb zt zc zA X hr hin
  refine k_aload_n X dX1_equalTo_0 rfl 0 rfl ?_
  refine k_get (v := .int (nI k)) X 0 1 2 rfl rfl (by decide) fl_X1_19 in_X1 rfl rfl dX1_equalTo_1 ?_
  refine k_aload_n X dX1_equalTo_4 rfl 1 rfl ?_
  refine k_get (v := .int (nI k2)) X 2 1 2 rfl rfl (by decide) fl_X1_19 in_X1 rfl rfl dX1_equalTo_5 ?_
  refine k_icmp_eq (tgt := 13) (xi := ((k : Nat) : Int)) (yi := ((k2 : Nat) : Int)) X (nI_toInt (by omega)) (nI_toInt (by omega)) dX1_equalTo_8 (by decide) (fun c_8 => ?_) (fun c_8 => ?_)
  · refine k_iconst (v := 0) X dX1_equalTo_13 (by decide) ?_
    refine k_istore_n (lv' := [(2, .int 0), (0, .ref r), (1, .ref r2)]) X dX1_equalTo_14 rfl (by decide) rfl ?_
    refine k_lv (lv' := [(0, .ref r), (1, .ref r2), (2, .int (nI 0))]) [1, 2, 0] rfl ?_
    refine k_wide (k := 0) (n := 0) (by (try dsimp only); omega) (by (try dsimp only); omega) ?_
    refine k_loop1 (pc1 := 15) (cl := fun (i : Nat) => 0) (sl := fun (i : Nat) => 0) (wsf := fun (i : Nat) => [(r, .inr (1, [.int (nI mo), .ref a, .int (nI k)])), (a, .inl (cI, n, .inl f)), (r2, .inr (1, [.int (nI mo2), .ref a2, .int (nI k2)])), (a2, .inl (cI, n2, .inl f2))]) (lvf := fun (i : Nat) => [(0, .ref r), (1, .ref r2), (2, .int (nI i))]) (stf := fun (i : Nat) => []) (I := fun (i : Nat) => i ≤ k ∧ ∀ j, j < i → f j = f2 j) (mu := fun (i : Nat) => k - i) ?_ 0 (⟨Nat.zero_le _, fun j h => absurd h (Nat.not_lt_zero j)⟩)
    intro i hI ih
    try dsimp only at hI ih
    try dsimp only
    have hi := hI.1
    refine k_iload_n X dX1_equalTo_15 rfl 2 rfl ?_
    refine k_aload_n X dX1_equalTo_16 rfl 0 rfl ?_
    refine k_get (v := .int (nI k)) X 0 1 2 rfl rfl (by decide) fl_X1_19 in_X1 rfl rfl dX1_equalTo_17 ?_
    refine k_icmp_ge (tgt := 46) (xi := ((i : Nat) : Int)) (yi := ((k : Nat) : Int)) X (nI_toInt (by omega)) (nI_toInt (by omega)) dX1_equalTo_20 (by decide) (fun c_20 => ?_) (fun c_20 => ?_)
    · refine k_iconst (v := 1) X dX1_equalTo_46 (by decide) ?_
      exact k_zret (u := [(r, .inr (1, [.int (nI mo), .ref a, .int (nI k)])), (a, .inl (cI, n, .inl f)), (r2, .inr (1, [.int (nI mo2), .ref a2, .int (nI k2)])), (a2, .inl (cI, n2, .inl f2))]) X (by first | rfl | exact b2i_nar _ | decide) hr [0, 1, 2, 3] (by decide) rfl rfl (⟨true, rfl, rfl, ⟨fun _ => ⟨by omega, fun j hj => hI.2 j (by omega)⟩, fun _ => rfl⟩⟩) (by (try dsimp only); omega) (by (try dsimp only); omega) dX1_equalTo_47
    · refine k_aload_n X dX1_equalTo_23 rfl 0 rfl ?_
      refine k_get (v := .ref a) X 0 1 1 rfl rfl (by decide) fl_X1_15 in_X1 rfl rfl dX1_equalTo_24 ?_
      refine k_iload_n X dX1_equalTo_27 rfl 2 rfl ?_
      refine k_iald (v := f i) X 1 rfl (vp_in_nI (n := i) (by omega) (by omega)) (by rw [nI_clamp (n := i) (by omega)]) dX1_equalTo_28 ?_
      refine k_aload_n X dX1_equalTo_29 rfl 1 rfl ?_
      refine k_get (v := .ref a2) X 2 1 1 rfl rfl (by decide) fl_X1_15 in_X1 rfl rfl dX1_equalTo_30 ?_
      refine k_iload_n X dX1_equalTo_33 rfl 2 rfl ?_
      refine k_iald (v := f2 i) X 3 rfl (vp_in_nI (n := i) (by omega) (by omega)) (by rw [nI_clamp (n := i) (by omega)]) dX1_equalTo_34 ?_
      refine k_icmp_eq (tgt := 40) (xi := (f i).toInt) (yi := (f2 i).toInt) X (rfl) (rfl) dX1_equalTo_35 (by decide) (fun c_35 => ?_) (fun c_35 => ?_)
      · refine k_iinc (v := nI (i + 1)) (lv' := [(2, .int (nI (i + 1))), (0, .ref r), (1, .ref r2)]) X dX1_equalTo_40 2 rfl (nI_1 _) (by decide) rfl ?_
        refine k_goto (tgt := 15) X dX1_equalTo_43 (by decide) ?_
        refine k_lv (lv' := [(0, .ref r), (1, .ref r2), (2, .int (nI (i + 1)))]) [1, 2, 0] rfl ?_
        refine k_sub (ws' := [(r, .inr (1, [.int (nI mo), .ref a, .int (nI k)])), (a, .inl (cI, n, .inl f)), (r2, .inr (1, [.int (nI mo2), .ref a2, .int (nI k2)])), (a2, .inl (cI, n2, .inl f2))]) [0, 1, 2, 3] (by decide) rfl rfl ?_
        refine k_wide (k := 0) (n := 0) (by (try dsimp only); omega) (by (try dsimp only); omega) ?_
        exact ih (i + 1) (⟨by omega, lt_s hI.2 (Int32.toInt_inj.mp c_35)⟩) (by omega)
      · refine k_iconst (v := 0) X dX1_equalTo_38 (by decide) ?_
        exact k_zret (u := [(r, .inr (1, [.int (nI mo), .ref a, .int (nI k)])), (a, .inl (cI, n, .inl f)), (r2, .inr (1, [.int (nI mo2), .ref a2, .int (nI k2)])), (a2, .inl (cI, n2, .inl f2))]) X (by first | rfl | exact b2i_nar _ | decide) hr [0, 1, 2, 3] (by decide) rfl rfl (⟨false, rfl, rfl, ⟨fun h => absurd h (by decide), fun h => absurd (congrArg Int32.toInt (h.2 i (by omega))) c_35⟩⟩) (by (try dsimp only); omega) (by (try dsimp only); omega) dX1_equalTo_39
  · refine k_iconst (v := 0) X dX1_equalTo_11 (by decide) ?_
    exact k_zret (u := [(r, .inr (1, [.int (nI mo), .ref a, .int (nI k)])), (a, .inl (cI, n, .inl f)), (r2, .inr (1, [.int (nI mo2), .ref a2, .int (nI k2)])), (a2, .inl (cI, n2, .inl f2))]) X (by first | rfl | exact b2i_nar _ | decide) hr [0, 1, 2, 3] (by decide) rfl rfl (⟨false, rfl, rfl, ⟨fun h => absurd h (by decide), fun h => absurd h.1 (by omega)⟩⟩) (by (try dsimp only); omega) (by (try dsimp only); omega) dX1_equalTo_12
set_option maxHeartbeats 4000000 in
set_option maxRecDepth 100000 in
theorem c_copyOf (l : Launch) (D : va_G) (cI cB : ClassId) (a : Nat) (n : Nat) (f : Nat → Int32) (N : Nat) (h1 : n < N) (h2 : N < 2 ^ 27) : kC l yJ7_copyOf_59c91 cJ7_copyOf_59c91 3 (some (.array .int)) 1 40 (1) (N) D cI cB [.ref a, .int (nI N)] [(a, .inl (cI, n, .inl f))] (fun (vV : Option Value) (uU : va_W) => ∃ (q : Nat), vV = some (.ref q) ∧ uU = [(a, .inl (cI, n, .inl f)), (q, .inl (cI, N, .inl (va_cpy f (fun _ => 0) 0 0 n)))]) := by
  refine k_entry (lv0 := [(0, .ref a), (1, .int (nI N))]) (by decide) (Nat.le_of_ble_eq_true rfl) rfl ?_
  intro zp ze zs zm zb zt zc zA X hr hin
  refine k_iload_n X dJ7_copyOf_59c91_0 rfl 1 rfl ?_
  refine k_aload_n X dJ7_copyOf_59c91_1 rfl 0 rfl ?_
  refine k_alenI (v := nI n) X 0 rfl rfl dJ7_copyOf_59c91_2 ?_
  refine k_icmp_ne (tgt := 14) (xi := ((N : Nat) : Int)) (yi := ((n : Nat) : Int)) X (nI_toInt (by omega)) (nI_toInt (by omega)) dJ7_copyOf_59c91_3 (by decide) (fun c_3 => ?_) (fun c_3 => ?_)
  · refine k_iload_n X dJ7_copyOf_59c91_14 rfl 1 rfl ?_
    refine k_newI X N (rfl) (by omega) ac_int (by (try dsimp only); omega) (by (try dsimp only); omega) dJ7_copyOf_59c91_15 (fun q_1 => ?_)
    refine k_ws (ws' := [(a, .inl (cI, n, .inl f)), (q_1, .inl (cI, N, .inl (fun _ => 0)))]) rfl ?_
    refine k_astore_n (lv' := [(2, .ref q_1), (0, .ref a), (1, .int (nI N))]) X dJ7_copyOf_59c91_17 rfl (by decide) rfl ?_
    refine k_aload_n X dJ7_copyOf_59c91_18 rfl 1 rfl ?_
    refine k_iconst (v := 0) X dJ7_copyOf_59c91_19 (by decide) ?_
    refine k_aload_n X dJ7_copyOf_59c91_20 rfl 0 rfl ?_
    refine k_iconst (v := 0) X dJ7_copyOf_59c91_21 (by decide) ?_
    refine k_aload_n X dJ7_copyOf_59c91_22 rfl 1 rfl ?_
    refine k_alenI (v := nI n) X 0 rfl rfl dJ7_copyOf_59c91_23 ?_
    refine k_iload_n X dJ7_copyOf_59c91_24 rfl 2 rfl ?_
    refine k_mmin X ml_J7_304 sm_Mmin ini_J9 co_Mmin (Nat.le_of_ble_eq_true rfl) (Nat.le_of_ble_eq_true rfl) (by (try dsimp only); omega) (by (try dsimp only); omega) dJ7_copyOf_59c91_25 ?_
    refine k_as (y := nI n) (if_neg (nI_nlt (by omega) (by omega))) ?_
    refine k_copy (f' := va_cpy f (fun _ => 0) 0 0 n) (ws' := [(a, .inl (cI, n, .inl f)), (q_1, .inl (cI, N, .inl (va_cpy f (fun _ => 0) 0 0 n)))]) X 0 1 ml_J7_150 nt_arraycopy sm_arraycopy ini_J10 rfl rfl (by decide) (by decide) (nI_pos (by omega)) (by rw [sb_cl0, nI_clamp (by omega)]; omega) (by rw [sb_cl0, nI_clamp (by omega)]; omega) (by rw [sb_cl0, nI_clamp (by omega)]) rfl (Nat.le_of_ble_eq_true rfl) (Nat.le_of_ble_eq_true rfl) dJ7_copyOf_59c91_28 ?_
    refine k_aload_n X dJ7_copyOf_59c91_31 rfl 0 rfl ?_
    exact k_aret (u := [(a, .inl (cI, n, .inl f)), (q_1, .inl (cI, N, .inl (va_cpy f (fun _ => 0) 0 0 n)))]) X (Or.inr ⟨_, rfl⟩) (Or.inr ⟨_, rfl⟩) hr [0, 1] (by decide) rfl rfl (⟨q_1, rfl, rfl⟩) (by (try dsimp only); omega) (by (try dsimp only); omega) dJ7_copyOf_59c91_32
  · exact absurd c_3 (by omega)
set_option maxHeartbeats 4000000 in
set_option maxRecDepth 100000 in
theorem c_makeCells (l : Launch) (D : va_G) (cI cB : ClassId) (r : Nat) (a : Nat) (mo : Nat) (k : Nat) (n : Nat) (f : Nat → Int32) (w : Nat) (hw : w ≤ mo) (hn : n ≤ mo) (hmo : mo ≤ 8000) (h1 : 1 ≤ n) : kC l yX1_makeCells cX1_makeCells 2 none 2 62 (rCost mo n w) (rCost mo n w) D cI cB [.ref r, .int (nI w)] [(r, .inr (1, [.int (nI mo), .ref a, .int (nI k)])), (a, .inl (cI, n, .inl f))] (fun (vV : Option Value) (uU : va_W) => ∃ (a2 : Nat) (f2 : Nat → Int32), vV = none ∧ uU = [(r, .inr (1, [.int (nI mo), .ref a2, .int (nI k)])), (a2, .inl (cI, rCap mo n w, .inl f2))] ∧ (∀ j, j < n → f2 j = f j)) := by
  refine k_entry (lv0 := [(0, .ref r), (1, .int (nI w))]) (by decide) (Nat.le_of_ble_eq_true rfl) rfl ?_
  intro zp ze zs zm zb zt zc zA X hr hin
  refine k_iload_n X dX1_makeCells_0 rfl 1 rfl ?_
  refine k_aload_n X dX1_makeCells_1 rfl 0 rfl ?_
  refine k_get (v := .ref a) X 0 1 1 rfl rfl (by decide) fl_X1_15 in_X1 rfl rfl dX1_makeCells_2 ?_
  refine k_alenI (v := nI n) X 1 rfl rfl dX1_makeCells_5 ?_
  refine k_icmp_le (tgt := 38) (xi := ((w : Nat) : Int)) (yi := ((n : Nat) : Int)) X (nI_toInt (by omega)) (nI_toInt (by omega)) dX1_makeCells_6 (by decide) (fun c_6 => ?_) (fun c_6 => ?_)
  · exact k_vret (u := [(r, .inr (1, [.int (nI mo), .ref a, .int (nI k)])), (a, .inl (cI, n, .inl f))]) X hr [0, 1] (by decide) rfl rfl (⟨a, f, rfl, by rw [rCap, if_pos (by omega)], fun _ _ => rfl⟩) (by (try dsimp only); omega) (by (try dsimp only); omega) dX1_makeCells_38
  · refine k_aload_n X dX1_makeCells_9 rfl 0 rfl ?_
    refine k_aload_n X dX1_makeCells_10 rfl 0 rfl ?_
    refine k_get (v := .ref a) X 0 1 1 rfl rfl (by decide) fl_X1_15 in_X1 rfl rfl dX1_makeCells_11 ?_
    refine k_iload_n X dX1_makeCells_14 rfl 1 rfl ?_
    refine k_aload_n X dX1_makeCells_15 rfl 0 rfl ?_
    refine k_get (v := .int (nI mo)) X 0 1 0 rfl rfl (by decide) fl_X1_9 in_X1 rfl rfl dX1_makeCells_16 ?_
    refine k_iconst (v := 2) X dX1_makeCells_19 (by decide) ?_
    refine k_aload_n X dX1_makeCells_20 rfl 0 rfl ?_
    refine k_get (v := .ref a) X 0 1 1 rfl rfl (by decide) fl_X1_15 in_X1 rfl rfl dX1_makeCells_21 ?_
    refine k_alenI (v := nI n) X 1 rfl rfl dX1_makeCells_24 ?_
    refine k_imul X dX1_makeCells_25 ?_
    refine k_as (y := nI (2 * n)) (by rw [show (2 : Int32) = nI 2 from rfl, pk_mul]) ?_
    refine k_mmin X ml_X1_49 sm_Mmin ini_J9 co_Mmin (Nat.le_of_ble_eq_true rfl) (Nat.le_of_ble_eq_true rfl) (by (try dsimp only); omega) (by (try dsimp only); omega) dX1_makeCells_26 ?_
    refine k_as (y := nI (min mo (2 * n))) (mnI (by omega) (by omega)) ?_
    refine k_mmax X ml_X1_54 sm_Mmax ini_J9 co_Mmax (Nat.le_of_ble_eq_true rfl) (Nat.le_of_ble_eq_true rfl) (by (try dsimp only); omega) (by (try dsimp only); omega) dX1_makeCells_29 ?_
    refine k_as (y := nI (max w (min mo (2 * n)))) (mxI (by omega) (by omega)) ?_
    refine k_callS (wc := [(a, .inl (cI, n, .inl f))]) (wr := [(r, .inr (1, [.int (nI mo), .ref a, .int (nI k)]))]) (As := [.ref a, .int (nI (max w (min mo (2 * n))))]) (n := 2) (st := [.ref r]) X (c_copyOf l D cI cB a n f (max w (min mo (2 * n))) (by omega) (by omega)) ml_X1_57 sm_J7_copyOf_59c91 ini_J7 co_J7_copyOf_59c91 (by decide +kernel) rfl ⟨Nat.le_of_ble_eq_true rfl, Nat.le_of_ble_eq_true rfl⟩ (⟨by (try dsimp only); rw [rCost, if_neg (by omega)]; omega, by (try dsimp only); rw [rCost, if_neg (by omega)]; omega⟩) (Nat.le_of_ble_eq_true rfl) [1] [0] rfl rfl rfl (by decide) (by decide) (by decide) rfl dX1_makeCells_32 (fun v_32 u_32 hu_32 => ?_)
    obtain ⟨q, rfl, rfl⟩ := hu_32
    refine k_to (ws' := [(r, .inr (1, [.int (nI mo), .ref a, .int (nI k)])), (a, .inl (cI, n, .inl f)), (q, .inl (cI, (max w (min mo (2 * n))), .inl (va_cpy f (fun _ => 0) 0 0 n)))]) (st' := [.ref q, .ref r]) rfl rfl ?_
    refine k_put (v := .ref q) (ty := .array .int) (ws' := [(r, .inr (1, [.int (nI mo), .ref q, .int (nI k)])), (a, .inl (cI, n, .inl f)), (q, .inl (cI, (max w (min mo (2 * n))), .inl (va_cpy f (fun _ => 0) 0 0 n)))]) X 0 1 1 tyX1 tyX1_ok nmX1 rfl rfl (by decide) fl_X1_15 in_X1 rfl rfl (by decide +kernel) rfl rfl (Nat.le_of_ble_eq_true rfl) rfl dX1_makeCells_35 ?_
    exact k_vret (u := [(r, .inr (1, [.int (nI mo), .ref q, .int (nI k)])), (q, .inl (cI, (max w (min mo (2 * n))), .inl (va_cpy f (fun _ => 0) 0 0 n)))]) X hr [0, 2] (by decide) rfl rfl (⟨q, _, rfl, by rw [rCap, if_neg (by omega)], fun j hj => by rw [pk_cpy_in (by omega) (by omega)]; congr 1; omega⟩) (by (try dsimp only); rw [rCost, if_neg (by omega)]; omega) (by (try dsimp only); rw [rCost, if_neg (by omega)]; omega) dX1_makeCells_38
set_option maxHeartbeats 4000000 in
set_option maxRecDepth 100000 in
theorem c_add (l : Launch) (D : va_G) (cI cB : ClassId) (r : Nat) (a : Nat) (mo : Nat) (k : Nat) (n : Nat) (f : Nat → Int32) (b : Int32) (hk : k ≤ n) (hn : n ≤ mo) (hmo : mo ≤ 8000) (h1 : 1 ≤ n) (hkm : k < mo) (hb : rByte b) : kC l yX1_add cX1_add 2 (some .boolean) 3 83 (rCost mo n (k + 1)) (rCost mo n (k + 1)) D cI cB [.ref r, .int b] [(r, .inr (1, [.int (nI mo), .ref a, .int (nI k)])), (a, .inl (cI, n, .inl f))] (fun (vV : Option Value) (uU : va_W) => ∃ (a2 : Nat) (f2 : Nat → Int32), vV = some (.int 1) ∧ uU = [(r, .inr (1, [.int (nI mo), .ref a2, .int (nI (k + 1))])), (a2, .inl (cI, rCap mo n (k + 1), .inl f2))] ∧ (f2 k = b) ∧ (∀ j, j < k → f2 j = f j)) := by
  refine k_entry (lv0 := [(0, .ref r), (1, .int b)]) (by decide) (Nat.le_of_ble_eq_true rfl) rfl ?_
  intro zp ze zs zm zb zt zc zA X hr hin
  refine k_aload_n X dX1_add_0 rfl 0 rfl ?_
  refine k_get (v := .int (nI k)) X 0 1 2 rfl rfl (by decide) fl_X1_19 in_X1 rfl rfl dX1_add_1 ?_
  refine k_aload_n X dX1_add_4 rfl 0 rfl ?_
  refine k_get (v := .int (nI mo)) X 0 1 0 rfl rfl (by decide) fl_X1_9 in_X1 rfl rfl dX1_add_5 ?_
  refine k_icmp_ge (tgt := 18) (xi := ((k : Nat) : Int)) (yi := ((mo : Nat) : Int)) X (nI_toInt (by omega)) (nI_toInt (by omega)) dX1_add_8 (by decide) (fun c_8 => ?_) (fun c_8 => ?_)
  · exact absurd c_8 (by omega)
  · refine k_iload_n X dX1_add_11 rfl 1 rfl ?_
    refine k_callS (wc := []) (wr := [(r, .inr (1, [.int (nI mo), .ref a, .int (nI k)])), (a, .inl (cI, n, .inl f))]) (As := [.int b]) (n := 1) (st := []) X (c_isByte l D cI cB b ) ml_X1_22 sm_X1_isByte ini_X1 co_X1_isByte (by decide +kernel) rfl ⟨Nat.le_of_ble_eq_true rfl, Nat.le_of_ble_eq_true rfl⟩ (⟨by (try dsimp only); omega, by (try dsimp only); omega⟩) (Nat.le_of_ble_eq_true rfl) [] [0, 1] rfl rfl rfl (by decide) (by decide) (by decide) rfl dX1_add_12 (fun v_12 u_12 hu_12 => ?_)
    obtain ⟨rfl, rfl⟩ := hu_12
    refine k_to (ws' := [(r, .inr (1, [.int (nI mo), .ref a, .int (nI k)])), (a, .inl (cI, n, .inl f))]) (st' := [.int (b2i (decide (rByte b)))]) rfl rfl ?_
    refine k_as (y := 1) (b2i_t hb) ?_
    refine k_if_ne (tgt := 20) (xi := (1 : Int)) X (by decide) dX1_add_15 (by decide) (fun c_15 => ?_) (fun c_15 => ?_)
    · refine k_aload_n X dX1_add_20 rfl 0 rfl ?_
      refine k_aload_n X dX1_add_21 rfl 0 rfl ?_
      refine k_get (v := .int (nI k)) X 0 1 2 rfl rfl (by decide) fl_X1_19 in_X1 rfl rfl dX1_add_22 ?_
      refine k_iconst (v := 1) X dX1_add_25 (by decide) ?_
      refine k_iadd X dX1_add_26 ?_
      refine k_as (y := nI (k + 1)) (nI_1 k) ?_
      refine k_callV (wc := [(r, .inr (1, [.int (nI mo), .ref a, .int (nI k)])), (a, .inl (cI, n, .inl f))]) (wr := []) (As := [.int (nI (k + 1))]) (n := 1) (st := []) (q0 := 0) X (c_makeCells l D cI cB r a mo k n f (k + 1) (by omega) (hn) (hmo) (h1)) rfl rfl ml_X1_26 im_X1_makeCells se_X1_makeCells ini_X1 co_X1_makeCells (by decide +kernel) rfl ⟨Nat.le_of_ble_eq_true rfl, Nat.le_of_ble_eq_true rfl⟩ (⟨by (try dsimp only); omega, by (try dsimp only); omega⟩) (Nat.le_of_ble_eq_true rfl) [0, 1] [] rfl rfl rfl (by decide) (by decide) (by decide) rfl dX1_add_27 (fun v_27 u_27 hu_27 => ?_)
      obtain ⟨a3, f3, rfl, rfl, hf3⟩ := hu_27
      refine k_to (ws' := [(r, .inr (1, [.int (nI mo), .ref a3, .int (nI k)])), (a3, .inl (cI, rCap mo n (k + 1), .inl f3))]) (st' := []) rfl rfl ?_
      have hcap : k + 1 ≤ rCap mo n (k + 1) ∧ rCap mo n (k + 1) ≤ 8000 := by rw [rCap]; split <;> omega
      refine k_aload_n X dX1_add_30 rfl 0 rfl ?_
      refine k_get (v := .ref a3) X 0 1 1 rfl rfl (by decide) fl_X1_15 in_X1 rfl rfl dX1_add_31 ?_
      refine k_aload_n X dX1_add_34 rfl 0 rfl ?_
      refine k_get (v := .int (nI k)) X 0 1 2 rfl rfl (by decide) fl_X1_19 in_X1 rfl rfl dX1_add_35 ?_
      refine k_iload_n X dX1_add_38 rfl 1 rfl ?_
      refine k_iast (f' := upd f3 k b) (ws' := [(r, .inr (1, [.int (nI mo), .ref a3, .int (nI k)])), (a3, .inl (cI, rCap mo n (k + 1), .inl (upd f3 k b)))]) X 1 rfl (vp_in_nI (n := k) (by omega) (by omega)) (by rw [nI_clamp (n := k) (by omega)]) rfl dX1_add_39 ?_
      refine k_aload_n X dX1_add_40 rfl 0 rfl ?_
      refine k_dup X dX1_add_41 rfl ?_
      refine k_get (v := .int (nI k)) X 0 1 2 rfl rfl (by decide) fl_X1_19 in_X1 rfl rfl dX1_add_42 ?_
      refine k_iconst (v := 1) X dX1_add_45 (by decide) ?_
      refine k_iadd X dX1_add_46 ?_
      refine k_as (y := nI (k + 1)) (nI_1 k) ?_
      refine k_put (v := .int (nI (k + 1))) (ty := .int) (ws' := [(r, .inr (1, [.int (nI mo), .ref a3, .int (nI (k + 1))])), (a3, .inl (cI, rCap mo n (k + 1), .inl (upd f3 k b)))]) X 0 1 2 tyX1 tyX1_ok nmX1 rfl rfl (by decide) fl_X1_19 in_X1 rfl rfl (by decide +kernel) rfl rfl (Nat.le_of_ble_eq_true rfl) rfl dX1_add_47 ?_
      refine k_iconst (v := 1) X dX1_add_50 (by decide) ?_
      exact k_zret (u := [(r, .inr (1, [.int (nI mo), .ref a3, .int (nI (k + 1))])), (a3, .inl (cI, rCap mo n (k + 1), .inl (upd f3 k b)))]) X (by first | rfl | exact b2i_nar _ | decide) hr [0, 1] (by decide) rfl rfl (⟨a3, _, rfl, rfl, pk_us, fun j hj => by rw [pk_un (by omega), hf3 j (by omega)]⟩) (by (try dsimp only); omega) (by (try dsimp only); omega) dX1_add_51
    · exact absurd c_15 (by decide)
set_option maxHeartbeats 4000000 in
set_option maxRecDepth 100000 in
theorem c_add_f (l : Launch) (D : va_G) (cI cB : ClassId) (r : Nat) (a : Nat) (mo : Nat) (k : Nat) (b : Int32) (hk : k ≤ mo) (hmo : mo ≤ 8000) (hf : ¬ (k < mo ∧ rByte b)) : kC l yX1_add cX1_add 2 (some .boolean) 1 20 (0) (0) D cI cB [.ref r, .int b] [(r, .inr (1, [.int (nI mo), .ref a, .int (nI k)]))] (fun (vV : Option Value) (uU : va_W) => vV = some (.int 0) ∧ uU = [(r, .inr (1, [.int (nI mo), .ref a, .int (nI k)]))]) := by
  refine k_entry (lv0 := [(0, .ref r), (1, .int b)]) (by decide) (Nat.le_of_ble_eq_true rfl) rfl ?_
  intro zp ze zs zm zb zt zc zA X hr hin
  refine k_aload_n X dX1_add_0 rfl 0 rfl ?_
  refine k_get (v := .int (nI k)) X 0 1 2 rfl rfl (by decide) fl_X1_19 in_X1 rfl rfl dX1_add_1 ?_
  refine k_aload_n X dX1_add_4 rfl 0 rfl ?_
  refine k_get (v := .int (nI mo)) X 0 1 0 rfl rfl (by decide) fl_X1_9 in_X1 rfl rfl dX1_add_5 ?_
  refine k_icmp_ge (tgt := 18) (xi := ((k : Nat) : Int)) (yi := ((mo : Nat) : Int)) X (nI_toInt (by omega)) (nI_toInt (by omega)) dX1_add_8 (by decide) (fun c_8 => ?_) (fun c_8 => ?_)
  · refine k_iconst (v := 0) X dX1_add_18 (by decide) ?_
    exact k_zret (u := [(r, .inr (1, [.int (nI mo), .ref a, .int (nI k)]))]) X (by first | rfl | exact b2i_nar _ | decide) hr [0] (by decide) rfl rfl (⟨rfl, rfl⟩) (by (try dsimp only); omega) (by (try dsimp only); omega) dX1_add_19
  · refine k_iload_n X dX1_add_11 rfl 1 rfl ?_
    refine k_callS (wc := []) (wr := [(r, .inr (1, [.int (nI mo), .ref a, .int (nI k)]))]) (As := [.int b]) (n := 1) (st := []) X (c_isByte l D cI cB b ) ml_X1_22 sm_X1_isByte ini_X1 co_X1_isByte (by decide +kernel) rfl ⟨Nat.le_of_ble_eq_true rfl, Nat.le_of_ble_eq_true rfl⟩ (⟨by (try dsimp only); omega, by (try dsimp only); omega⟩) (Nat.le_of_ble_eq_true rfl) [] [0] rfl rfl rfl (by decide) (by decide) (by decide) rfl dX1_add_12 (fun v_12 u_12 hu_12 => ?_)
    obtain ⟨rfl, rfl⟩ := hu_12
    refine k_to (ws' := [(r, .inr (1, [.int (nI mo), .ref a, .int (nI k)]))]) (st' := [.int (b2i (decide (rByte b)))]) rfl rfl ?_
    refine k_as (y := 0) (b2i_f (by omega)) ?_
    refine k_if_ne (tgt := 20) (xi := (0 : Int)) X (by decide) dX1_add_15 (by decide) (fun c_15 => ?_) (fun c_15 => ?_)
    · exact absurd c_15 (by decide)
    · refine k_iconst (v := 0) X dX1_add_18 (by decide) ?_
      exact k_zret (u := [(r, .inr (1, [.int (nI mo), .ref a, .int (nI k)]))]) X (by first | rfl | exact b2i_nar _ | decide) hr [0] (by decide) rfl rfl (⟨rfl, rfl⟩) (by (try dsimp only); omega) (by (try dsimp only); omega) dX1_add_19
set_option maxHeartbeats 4000000 in
set_option maxRecDepth 100000 in
theorem c_addFrom (l : Launch) (D : va_G) (cI cB : ClassId) (r : Nat) (a : Nat) (mo : Nat) (k : Nat) (n : Nat) (f : Nat → Int32) (r2 : Nat) (a2 : Nat) (mo2 : Nat) (k2 : Nat) (n2 : Nat) (f2 : Nat → Int32) (x : Nat) (y : Nat) (hk : k ≤ n) (hn : n ≤ mo) (hmo : mo ≤ 8000) (h1 : 1 ≤ n) (hk2 : k2 ≤ n2) (hn2 : n2 ≤ 8000) (hxy : x + y ≤ k2) (hy : k + y ≤ mo) : kC l yX1_addFrom cX1_addFrom 4 (some .boolean) 3 83 (rCost mo n (k + y)) (rCost mo n (k + y)) D cI cB [.ref r, .ref r2, .int (nI x), .int (nI y)] [(r, .inr (1, [.int (nI mo), .ref a, .int (nI k)])), (a, .inl (cI, n, .inl f)), (r2, .inr (1, [.int (nI mo2), .ref a2, .int (nI k2)])), (a2, .inl (cI, n2, .inl f2))] (fun (vV : Option Value) (uU : va_W) => ∃ (a3 : Nat) (f3 : Nat → Int32), vV = some (.int 1) ∧ uU = [(r, .inr (1, [.int (nI mo), .ref a3, .int (nI (k + y))])), (a3, .inl (cI, rCap mo n (k + y), .inl f3)), (r2, .inr (1, [.int (nI mo2), .ref a2, .int (nI k2)])), (a2, .inl (cI, n2, .inl f2))] ∧ (∀ j, j < k → f3 j = f j) ∧ (∀ j, j < y → f3 (k + j) = f2 (x + j))) := by
  refine k_entry (lv0 := [(0, .ref r), (1, .ref r2), (2, .int (nI x)), (3, .int (nI y))]) (by decide) (Nat.le_of_ble_eq_true rfl) rfl ?_
  intro zp ze zs zm zb zt zc zA X hr hin
  refine k_aload_n X dX1_addFrom_0 rfl 1 rfl ?_
  refine k_iload_n X dX1_addFrom_1 rfl 2 rfl ?_
  refine k_iload_n X dX1_addFrom_2 rfl 3 rfl ?_
  refine k_callV (wc := [(r2, .inr (1, [.int (nI mo2), .ref a2, .int (nI k2)]))]) (wr := [(r, .inr (1, [.int (nI mo), .ref a, .int (nI k)])), (a, .inl (cI, n, .inl f)), (a2, .inl (cI, n2, .inl f2))]) (As := [.int (nI x), .int (nI y)]) (n := 2) (st := []) (q0 := 0) X (c_holds l D cI cB r2 a2 mo2 k2 (nI x) (nI y) (by omega)) rfl rfl ml_X1_30 im_X1_holds se_X1_holds ini_X1 co_X1_holds (by decide +kernel) rfl ⟨Nat.le_of_ble_eq_true rfl, Nat.le_of_ble_eq_true rfl⟩ (⟨by (try dsimp only); omega, by (try dsimp only); omega⟩) (Nat.le_of_ble_eq_true rfl) [2] [0, 1, 3] rfl rfl rfl (by decide) (by decide) (by decide) rfl dX1_addFrom_3 (fun v_3 u_3 hu_3 => ?_)
  obtain ⟨rfl, rfl⟩ := hu_3
  refine k_to (ws' := [(r, .inr (1, [.int (nI mo), .ref a, .int (nI k)])), (a, .inl (cI, n, .inl f)), (a2, .inl (cI, n2, .inl f2)), (r2, .inr (1, [.int (nI mo2), .ref a2, .int (nI k2)]))]) (st' := [.int (b2i (decide (rHolds (nI x) (nI y) k2)))]) rfl rfl ?_
  refine k_as (y := 1) (b2i_t ((rHolds_iff (by omega) (by omega)).mpr hxy)) ?_
  refine k_if_eq (tgt := 17) (xi := (1 : Int)) X (by decide) dX1_addFrom_6 (by decide) (fun c_6 => ?_) (fun c_6 => ?_)
  · exact absurd c_6 (by decide)
  · refine k_iload_n X dX1_addFrom_9 rfl 3 rfl ?_
    refine k_aload_n X dX1_addFrom_10 rfl 0 rfl ?_
    refine k_callV (wc := [(r, .inr (1, [.int (nI mo), .ref a, .int (nI k)]))]) (wr := [(a, .inl (cI, n, .inl f)), (a2, .inl (cI, n2, .inl f2)), (r2, .inr (1, [.int (nI mo2), .ref a2, .int (nI k2)]))]) (As := []) (n := 0) (st := [.int (nI y)]) (q0 := 0) X (c_room l D cI cB r a mo k (by omega) (hmo)) rfl rfl ml_X1_34 im_X1_room se_X1_room ini_X1 co_X1_room (by decide +kernel) rfl ⟨Nat.le_of_ble_eq_true rfl, Nat.le_of_ble_eq_true rfl⟩ (⟨by (try dsimp only); omega, by (try dsimp only); omega⟩) (Nat.le_of_ble_eq_true rfl) [0] [1, 2, 3] rfl rfl rfl (by decide) (by decide) (by decide) rfl dX1_addFrom_11 (fun v_11 u_11 hu_11 => ?_)
    obtain ⟨rfl, rfl⟩ := hu_11
    refine k_to (ws' := [(a, .inl (cI, n, .inl f)), (a2, .inl (cI, n2, .inl f2)), (r2, .inr (1, [.int (nI mo2), .ref a2, .int (nI k2)])), (r, .inr (1, [.int (nI mo), .ref a, .int (nI k)]))]) (st' := [.int (nI (mo - k)), .int (nI y)]) rfl rfl ?_
    refine k_icmp_le (tgt := 19) (xi := ((y : Nat) : Int)) (yi := (((mo - k) : Nat) : Int)) X (nI_toInt (by omega)) (nI_toInt (by omega)) dX1_addFrom_14 (by decide) (fun c_14 => ?_) (fun c_14 => ?_)
    · refine k_aload_n X dX1_addFrom_19 rfl 0 rfl ?_
      refine k_aload_n X dX1_addFrom_20 rfl 0 rfl ?_
      refine k_get (v := .int (nI k)) X 3 1 2 rfl rfl (by decide) fl_X1_19 in_X1 rfl rfl dX1_addFrom_21 ?_
      refine k_iload_n X dX1_addFrom_24 rfl 3 rfl ?_
      refine k_iadd X dX1_addFrom_25 ?_
      refine k_as (y := nI (k + y)) (nI_add _ _) ?_
      refine k_callV (wc := [(r, .inr (1, [.int (nI mo), .ref a, .int (nI k)])), (a, .inl (cI, n, .inl f))]) (wr := [(a2, .inl (cI, n2, .inl f2)), (r2, .inr (1, [.int (nI mo2), .ref a2, .int (nI k2)]))]) (As := [.int (nI (k + y))]) (n := 1) (st := []) (q0 := 0) X (c_makeCells l D cI cB r a mo k n f (k + y) (by omega) (hn) (hmo) (h1)) rfl rfl ml_X1_26 im_X1_makeCells se_X1_makeCells ini_X1 co_X1_makeCells (by decide +kernel) rfl ⟨Nat.le_of_ble_eq_true rfl, Nat.le_of_ble_eq_true rfl⟩ (⟨by (try dsimp only); omega, by (try dsimp only); omega⟩) (Nat.le_of_ble_eq_true rfl) [3, 0] [1, 2] rfl rfl rfl (by decide) (by decide) (by decide) rfl dX1_addFrom_26 (fun v_26 u_26 hu_26 => ?_)
      obtain ⟨a4, f4, rfl, rfl, hf4⟩ := hu_26
      refine k_to (ws' := [(a2, .inl (cI, n2, .inl f2)), (r2, .inr (1, [.int (nI mo2), .ref a2, .int (nI k2)])), (r, .inr (1, [.int (nI mo), .ref a4, .int (nI k)])), (a4, .inl (cI, rCap mo n (k + y), .inl f4))]) (st' := []) rfl rfl ?_
      have hcap : k + y ≤ rCap mo n (k + y) ∧ rCap mo n (k + y) ≤ 8000 := by rw [rCap]; split <;> omega
      refine k_aload_n X dX1_addFrom_29 rfl 1 rfl ?_
      refine k_get (v := .ref a2) X 1 1 1 rfl rfl (by decide) fl_X1_15 in_X1 rfl rfl dX1_addFrom_30 ?_
      refine k_iload_n X dX1_addFrom_33 rfl 2 rfl ?_
      refine k_aload_n X dX1_addFrom_34 rfl 0 rfl ?_
      refine k_get (v := .ref a4) X 2 1 1 rfl rfl (by decide) fl_X1_15 in_X1 rfl rfl dX1_addFrom_35 ?_
      refine k_aload_n X dX1_addFrom_38 rfl 0 rfl ?_
      refine k_get (v := .int (nI k)) X 2 1 2 rfl rfl (by decide) fl_X1_19 in_X1 rfl rfl dX1_addFrom_39 ?_
      refine k_iload_n X dX1_addFrom_42 rfl 3 rfl ?_
      refine k_copy (f' := va_cpy f2 f4 x k y) (ws' := [(a2, .inl (cI, n2, .inl f2)), (r2, .inr (1, [.int (nI mo2), .ref a2, .int (nI k2)])), (r, .inr (1, [.int (nI mo), .ref a4, .int (nI k)])), (a4, .inl (cI, rCap mo n (k + y), .inl (va_cpy f2 f4 x k y)))]) X 0 3 ml_X1_38 nt_arraycopy sm_arraycopy ini_J10 rfl rfl (nI_pos (by omega)) (nI_pos (by omega)) (nI_pos (by omega)) (by rw [nI_clamp (by omega), nI_clamp (by omega)]; omega) (by rw [nI_clamp (by omega), nI_clamp (by omega)]; omega) (by rw [nI_clamp (by omega), nI_clamp (by omega), nI_clamp (by omega)]) rfl (Nat.le_of_ble_eq_true rfl) (Nat.le_of_ble_eq_true rfl) dX1_addFrom_43 ?_
      refine k_aload_n X dX1_addFrom_46 rfl 0 rfl ?_
      refine k_dup X dX1_addFrom_47 rfl ?_
      refine k_get (v := .int (nI k)) X 2 1 2 rfl rfl (by decide) fl_X1_19 in_X1 rfl rfl dX1_addFrom_48 ?_
      refine k_iload_n X dX1_addFrom_51 rfl 3 rfl ?_
      refine k_iadd X dX1_addFrom_52 ?_
      refine k_as (y := nI (k + y)) (nI_add _ _) ?_
      refine k_put (v := .int (nI (k + y))) (ty := .int) (ws' := [(a2, .inl (cI, n2, .inl f2)), (r2, .inr (1, [.int (nI mo2), .ref a2, .int (nI k2)])), (r, .inr (1, [.int (nI mo), .ref a4, .int (nI (k + y))])), (a4, .inl (cI, rCap mo n (k + y), .inl (va_cpy f2 f4 x k y)))]) X 2 1 2 tyX1 tyX1_ok nmX1 rfl rfl (by decide) fl_X1_19 in_X1 rfl rfl (by decide +kernel) rfl rfl (Nat.le_of_ble_eq_true rfl) rfl dX1_addFrom_53 ?_
      refine k_iconst (v := 1) X dX1_addFrom_56 (by decide) ?_
      exact k_zret (u := [(r, .inr (1, [.int (nI mo), .ref a4, .int (nI (k + y))])), (a4, .inl (cI, rCap mo n (k + y), .inl (va_cpy f2 f4 x k y))), (r2, .inr (1, [.int (nI mo2), .ref a2, .int (nI k2)])), (a2, .inl (cI, n2, .inl f2))]) X (by first | rfl | exact b2i_nar _ | decide) hr [2, 3, 1, 0] (by decide) rfl rfl (⟨a4, _, rfl, rfl, fun j hj => by rw [pk_cpy_out (by omega), hf4 j (by omega)], fun j hj => by rw [pk_cpy_in (by omega) (by omega)]; congr 1; omega⟩) (by (try dsimp only); omega) (by (try dsimp only); omega) dX1_addFrom_57
    · exact absurd c_14 (by omega)
set_option maxHeartbeats 4000000 in
set_option maxRecDepth 100000 in
theorem c_addFrom_f (l : Launch) (D : va_G) (cI cB : ClassId) (r : Nat) (a : Nat) (mo : Nat) (k : Nat) (r2 : Nat) (a2 : Nat) (mo2 : Nat) (k2 : Nat) (x : Nat) (y : Nat) (hk : k ≤ mo) (hmo : mo ≤ 8000) (hk2 : k2 ≤ 8000) (hx : x < 2 ^ 30) (hy : y < 2 ^ 30) (hf : ¬ (x + y ≤ k2 ∧ k + y ≤ mo)) : kC l yX1_addFrom cX1_addFrom 4 (some .boolean) 1 22 (0) (0) D cI cB [.ref r, .ref r2, .int (nI x), .int (nI y)] [(r, .inr (1, [.int (nI mo), .ref a, .int (nI k)])), (r2, .inr (1, [.int (nI mo2), .ref a2, .int (nI k2)]))] (fun (vV : Option Value) (uU : va_W) => vV = some (.int 0) ∧ uU = [(r, .inr (1, [.int (nI mo), .ref a, .int (nI k)])), (r2, .inr (1, [.int (nI mo2), .ref a2, .int (nI k2)]))]) := by
  refine k_entry (lv0 := [(0, .ref r), (1, .ref r2), (2, .int (nI x)), (3, .int (nI y))]) (by decide) (Nat.le_of_ble_eq_true rfl) rfl ?_
  intro zp ze zs zm zb zt zc zA X hr hin
  refine k_aload_n X dX1_addFrom_0 rfl 1 rfl ?_
  refine k_iload_n X dX1_addFrom_1 rfl 2 rfl ?_
  refine k_iload_n X dX1_addFrom_2 rfl 3 rfl ?_
  refine k_callV (wc := [(r2, .inr (1, [.int (nI mo2), .ref a2, .int (nI k2)]))]) (wr := [(r, .inr (1, [.int (nI mo), .ref a, .int (nI k)]))]) (As := [.int (nI x), .int (nI y)]) (n := 2) (st := []) (q0 := 0) X (c_holds l D cI cB r2 a2 mo2 k2 (nI x) (nI y) (by omega)) rfl rfl ml_X1_30 im_X1_holds se_X1_holds ini_X1 co_X1_holds (by decide +kernel) rfl ⟨Nat.le_of_ble_eq_true rfl, Nat.le_of_ble_eq_true rfl⟩ (⟨by (try dsimp only); omega, by (try dsimp only); omega⟩) (Nat.le_of_ble_eq_true rfl) [1] [0] rfl rfl rfl (by decide) (by decide) (by decide) rfl dX1_addFrom_3 (fun v_3 u_3 hu_3 => ?_)
  obtain ⟨rfl, rfl⟩ := hu_3
  refine k_to (ws' := [(r, .inr (1, [.int (nI mo), .ref a, .int (nI k)])), (r2, .inr (1, [.int (nI mo2), .ref a2, .int (nI k2)]))]) (st' := [.int (b2i (decide (rHolds (nI x) (nI y) k2)))]) rfl rfl ?_
  by_cases hc : x + y ≤ k2
  · refine k_as (y := 1) (b2i_t ((rHolds_iff (by omega) (by omega)).mpr hc)) ?_
    refine k_if_eq (tgt := 17) (xi := (1 : Int)) X (by decide) dX1_addFrom_6 (by decide) (fun c_6 => ?_) (fun c_6 => ?_)
    · exact absurd c_6 (by decide)
    · refine k_iload_n X dX1_addFrom_9 rfl 3 rfl ?_
      refine k_aload_n X dX1_addFrom_10 rfl 0 rfl ?_
      refine k_callV (wc := [(r, .inr (1, [.int (nI mo), .ref a, .int (nI k)]))]) (wr := [(r2, .inr (1, [.int (nI mo2), .ref a2, .int (nI k2)]))]) (As := []) (n := 0) (st := [.int (nI y)]) (q0 := 0) X (c_room l D cI cB r a mo k (by omega) (hmo)) rfl rfl ml_X1_34 im_X1_room se_X1_room ini_X1 co_X1_room (by decide +kernel) rfl ⟨Nat.le_of_ble_eq_true rfl, Nat.le_of_ble_eq_true rfl⟩ (⟨by (try dsimp only); omega, by (try dsimp only); omega⟩) (Nat.le_of_ble_eq_true rfl) [0] [1] rfl rfl rfl (by decide) (by decide) (by decide) rfl dX1_addFrom_11 (fun v_11 u_11 hu_11 => ?_)
      obtain ⟨rfl, rfl⟩ := hu_11
      refine k_to (ws' := [(r2, .inr (1, [.int (nI mo2), .ref a2, .int (nI k2)])), (r, .inr (1, [.int (nI mo), .ref a, .int (nI k)]))]) (st' := [.int (nI (mo - k)), .int (nI y)]) rfl rfl ?_
      refine k_icmp_le (tgt := 19) (xi := ((y : Nat) : Int)) (yi := (((mo - k) : Nat) : Int)) X (nI_toInt (by omega)) (nI_toInt (by omega)) dX1_addFrom_14 (by decide) (fun c_14 => ?_) (fun c_14 => ?_)
      · exact absurd c_14 (by omega)
      · refine k_iconst (v := 0) X dX1_addFrom_17 (by decide) ?_
        exact k_zret (u := [(r, .inr (1, [.int (nI mo), .ref a, .int (nI k)])), (r2, .inr (1, [.int (nI mo2), .ref a2, .int (nI k2)]))]) X (by first | rfl | exact b2i_nar _ | decide) hr [1, 0] (by decide) rfl rfl (⟨rfl, rfl⟩) (by (try dsimp only); omega) (by (try dsimp only); omega) dX1_addFrom_18
  · refine k_as (y := 0) (b2i_f (fun z => hc ((rHolds_iff (by omega) (by omega)).mp z))) ?_
    refine k_if_eq (tgt := 17) (xi := (0 : Int)) X (by decide) dX1_addFrom_6 (by decide) (fun c_6 => ?_) (fun c_6 => ?_)
    · refine k_iconst (v := 0) X dX1_addFrom_17 (by decide) ?_
      exact k_zret (u := [(r, .inr (1, [.int (nI mo), .ref a, .int (nI k)])), (r2, .inr (1, [.int (nI mo2), .ref a2, .int (nI k2)]))]) X (by first | rfl | exact b2i_nar _ | decide) hr [0, 1] (by decide) rfl rfl (⟨rfl, rfl⟩) (by (try dsimp only); omega) (by (try dsimp only); omega) dX1_addFrom_18
    · exact absurd c_6 (by decide)
set_option maxHeartbeats 4000000 in
set_option maxRecDepth 100000 in
theorem c_Row (l : Launch) (D : va_G) (cI cB : ClassId) (r : Nat) (mo : Nat)  : kC l yX1_init cX1_init 2 none 1 12 (1) (64) D cI cB [.ref r, .int (nI mo)] [(r, .inr (1, [.int 0, .null, .int 0]))] (fun (vV : Option Value) (uU : va_W) => ∃ (a : Nat), vV = none ∧ uU = [(r, .inr (1, [.int (nI mo), .ref a, .int (nI 0)])), (a, .inl (cI, 64, .inl (fun _ => 0)))]) := by
  refine k_entry (lv0 := [(0, .ref r), (1, .int (nI mo))]) (by decide) (Nat.le_of_ble_eq_true rfl) rfl ?_
  intro zp ze zs zm zb zt zc zA X hr hin
  refine k_aload_n X dX1_init_0 rfl 0 rfl ?_
  refine k_objInit X ml_X1_3 im_objInit co_objInit (Nat.le_of_ble_eq_true rfl) (Nat.le_of_ble_eq_true rfl) dX1_init_1 ?_
  refine k_aload_n X dX1_init_4 rfl 0 rfl ?_
  refine k_iload_n X dX1_init_5 rfl 1 rfl ?_
  refine k_putF (v := .int (nI mo)) (ty := .int) (ws' := [(r, .inr (1, [.int (nI mo), .null, .int 0]))]) X 0 1 0 tyX1 tyX1_ok nmX1 rfl rfl (by decide) fl_X1_9 in_X1 rfl rfl hin rfl (by decide +kernel) rfl rfl (Nat.le_of_ble_eq_true rfl) rfl dX1_init_6 ?_
  refine k_aload_n X dX1_init_9 rfl 0 rfl ?_
  refine k_bipush (v := 64) X dX1_init_10 (by decide) ?_
  refine k_newI X 64 (rfl) (by omega) ac_int (by (try dsimp only); omega) (by (try dsimp only); omega) dX1_init_12 (fun q_1 => ?_)
  refine k_ws (ws' := [(r, .inr (1, [.int (nI mo), .null, .int 0])), (q_1, .inl (cI, 64, .inl (fun _ => 0)))]) rfl ?_
  refine k_put (v := .ref q_1) (ty := .array .int) (ws' := [(r, .inr (1, [.int (nI mo), .ref q_1, .int 0])), (q_1, .inl (cI, 64, .inl (fun _ => 0)))]) X 0 1 1 tyX1 tyX1_ok nmX1 rfl rfl (by decide) fl_X1_15 in_X1 rfl rfl (by decide +kernel) rfl rfl (Nat.le_of_ble_eq_true rfl) rfl dX1_init_14 ?_
  refine k_aload_n X dX1_init_17 rfl 0 rfl ?_
  refine k_iconst (v := 0) X dX1_init_18 (by decide) ?_
  refine k_put (v := .int 0) (ty := .int) (ws' := [(r, .inr (1, [.int (nI mo), .ref q_1, .int 0])), (q_1, .inl (cI, 64, .inl (fun _ => 0)))]) X 0 1 2 tyX1 tyX1_ok nmX1 rfl rfl (by decide) fl_X1_19 in_X1 rfl rfl (by decide +kernel) rfl rfl (Nat.le_of_ble_eq_true rfl) rfl dX1_init_19 ?_
  exact k_vret (u := [(r, .inr (1, [.int (nI mo), .ref q_1, .int 0])), (q_1, .inl (cI, 64, .inl (fun _ => 0)))]) X hr [0, 1] (by decide) rfl rfl (⟨q_1, rfl, rfl⟩) (by (try dsimp only); omega) (by (try dsimp only); omega) dX1_init_22
