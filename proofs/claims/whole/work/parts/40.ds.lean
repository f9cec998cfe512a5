/-! DeltaSync: its small methods -/
theorem and255 (x : Int32) : rByte (x &&& 255) := by
  obtain ⟨j, hj, e⟩ := pk_andE x (m := 255) 8 (by decide)
  rw [e]
  exact rByte_nI (by omega)
def fdB (v : Int32) : Nat → Int32
  | 0 => (v.toUInt32 >>> (Int32.toUInt32 24 &&& Int32.toUInt32 31)).toInt32 &&& 255
  | 1 => (v.toUInt32 >>> (Int32.toUInt32 16 &&& Int32.toUInt32 31)).toInt32 &&& 255
  | 2 => (v.toUInt32 >>> (Int32.toUInt32 8 &&& Int32.toUInt32 31)).toInt32 &&& 255
  | _ => (v.toUInt32 >>> (Int32.toUInt32 0 &&& Int32.toUInt32 31)).toInt32 &&& 255
def cap4 (n k : Nat) : Nat := rCap 2000 (rCap 2000 (rCap 2000 (rCap 2000 n (k + 1)) (k + 1 + 1)) (k + 1 + 1 + 1)) (k + 1 + 1 + 1 + 1)
def cst4 (n k : Nat) : Nat := rCost 2000 n (k + 1) + rCost 2000 (rCap 2000 n (k + 1)) (k + 1 + 1) + rCost 2000 (rCap 2000 (rCap 2000 n (k + 1)) (k + 1 + 1)) (k + 1 + 1 + 1) + rCost 2000 (rCap 2000 (rCap 2000 (rCap 2000 n (k + 1)) (k + 1 + 1)) (k + 1 + 1 + 1)) (k + 1 + 1 + 1 + 1)
theorem cap_ok {mo n w : Nat} (hn : n ≤ mo) (hw : w ≤ mo) (h1 : 1 ≤ n) : w ≤ rCap mo n w ∧ rCap mo n w ≤ mo ∧ 1 ≤ rCap mo n w ∧ n ≤ rCap mo n w := by
  rw [rCap]
  split <;> omega
set_option maxHeartbeats 4000000 in
set_option maxRecDepth 100000 in
theorem c_rowOf_0 (l : Launch) (D : va_G) (cI cB : ClassId) (x0 : Nat) (ro : Nat) (rn : Nat) (rt : Nat) (rr : Nat) (o : Nat) (g : Nat) (z : Nat) (nbs : Nat) (nwd : Nat)  : kC l yX4_rowOf cX4_rowOf 2 (some (.object "DeltaSync$Row")) 0 0 (0) (0) D cI cB [.ref x0, .int 0] [(x0, .inr (4, [.ref ro, .ref rn, .ref rt, .ref rr, .ref o, .ref g, .ref z, .int (nI nbs), .int (nI nwd)]))] (fun (vV : Option Value) (uU : va_W) => vV = some (.ref ro) ∧ uU = [(x0, .inr (4, [.ref ro, .ref rn, .ref rt, .ref rr, .ref o, .ref g, .ref z, .int (nI nbs), .int (nI nwd)]))]) := by
  refine k_entry (lv0 := [(0, .ref x0), (1, .int 0)]) (by decide) (Nat.le_of_ble_eq_true rfl) rfl ?_
  intro zp ze zs zm zb zt zc zA X hr hin
  refine k_iload_n X dX4_rowOf_0 rfl 1 rfl ?_
  refine k_tableIn (off := 31) (tgt := 32) X dX4_rowOf_1 (by decide) (by decide) (by decide) (by decide) ?_
  refine k_aload_n X dX4_rowOf_32 rfl 0 rfl ?_
  refine k_get (v := .ref ro) X 0 4 0 rfl rfl (by decide) fl_X4_14 in_X4 rfl rfl dX4_rowOf_33 ?_
  exact k_aret (u := [(x0, .inr (4, [.ref ro, .ref rn, .ref rt, .ref rr, .ref o, .ref g, .ref z, .int (nI nbs), .int (nI nwd)]))]) X (Or.inl ⟨_, rfl⟩) (Or.inr ⟨_, rfl⟩) hr [0] (by decide) rfl rfl (⟨rfl, rfl⟩) (by (try dsimp only); omega) (by (try dsimp only); omega) dX4_rowOf_36
set_option maxHeartbeats 4000000 in
set_option maxRecDepth 100000 in
theorem c_rowOf_1 (l : Launch) (D : va_G) (cI cB : ClassId) (x0 : Nat) (ro : Nat) (rn : Nat) (rt : Nat) (rr : Nat) (o : Nat) (g : Nat) (z : Nat) (nbs : Nat) (nwd : Nat)  : kC l yX4_rowOf cX4_rowOf 2 (some (.object "DeltaSync$Row")) 0 0 (0) (0) D cI cB [.ref x0, .int 1] [(x0, .inr (4, [.ref ro, .ref rn, .ref rt, .ref rr, .ref o, .ref g, .ref z, .int (nI nbs), .int (nI nwd)]))] (fun (vV : Option Value) (uU : va_W) => vV = some (.ref rn) ∧ uU = [(x0, .inr (4, [.ref ro, .ref rn, .ref rt, .ref rr, .ref o, .ref g, .ref z, .int (nI nbs), .int (nI nwd)]))]) := by
  refine k_entry (lv0 := [(0, .ref x0), (1, .int 1)]) (by decide) (Nat.le_of_ble_eq_true rfl) rfl ?_
  intro zp ze zs zm zb zt zc zA X hr hin
  refine k_iload_n X dX4_rowOf_0 rfl 1 rfl ?_
  refine k_tableIn (off := 36) (tgt := 37) X dX4_rowOf_1 (by decide) (by decide) (by decide) (by decide) ?_
  refine k_aload_n X dX4_rowOf_37 rfl 0 rfl ?_
  refine k_get (v := .ref rn) X 0 4 1 rfl rfl (by decide) fl_X4_18 in_X4 rfl rfl dX4_rowOf_38 ?_
  exact k_aret (u := [(x0, .inr (4, [.ref ro, .ref rn, .ref rt, .ref rr, .ref o, .ref g, .ref z, .int (nI nbs), .int (nI nwd)]))]) X (Or.inl ⟨_, rfl⟩) (Or.inr ⟨_, rfl⟩) hr [0] (by decide) rfl rfl (⟨rfl, rfl⟩) (by (try dsimp only); omega) (by (try dsimp only); omega) dX4_rowOf_41
set_option maxHeartbeats 4000000 in
set_option maxRecDepth 100000 in
theorem c_rowOf_2 (l : Launch) (D : va_G) (cI cB : ClassId) (x0 : Nat) (ro : Nat) (rn : Nat) (rt : Nat) (rr : Nat) (o : Nat) (g : Nat) (z : Nat) (nbs : Nat) (nwd : Nat)  : kC l yX4_rowOf cX4_rowOf 2 (some (.object "DeltaSync$Row")) 0 0 (0) (0) D cI cB [.ref x0, .int 2] [(x0, .inr (4, [.ref ro, .ref rn, .ref rt, .ref rr, .ref o, .ref g, .ref z, .int (nI nbs), .int (nI nwd)]))] (fun (vV : Option Value) (uU : va_W) => vV = some (.ref rt) ∧ uU = [(x0, .inr (4, [.ref ro, .ref rn, .ref rt, .ref rr, .ref o, .ref g, .ref z, .int (nI nbs), .int (nI nwd)]))]) := by
  refine k_entry (lv0 := [(0, .ref x0), (1, .int 2)]) (by decide) (Nat.le_of_ble_eq_true rfl) rfl ?_
  intro zp ze zs zm zb zt zc zA X hr hin
  refine k_iload_n X dX4_rowOf_0 rfl 1 rfl ?_
  refine k_tableIn (off := 41) (tgt := 42) X dX4_rowOf_1 (by decide) (by decide) (by decide) (by decide) ?_
  refine k_aload_n X dX4_rowOf_42 rfl 0 rfl ?_
  refine k_get (v := .ref rt) X 0 4 2 rfl rfl (by decide) fl_X4_21 in_X4 rfl rfl dX4_rowOf_43 ?_
  exact k_aret (u := [(x0, .inr (4, [.ref ro, .ref rn, .ref rt, .ref rr, .ref o, .ref g, .ref z, .int (nI nbs), .int (nI nwd)]))]) X (Or.inl ⟨_, rfl⟩) (Or.inr ⟨_, rfl⟩) hr [0] (by decide) rfl rfl (⟨rfl, rfl⟩) (by (try dsimp only); omega) (by (try dsimp only); omega) dX4_rowOf_46
set_option maxHeartbeats 4000000 in
set_option maxRecDepth 100000 in
theorem c_rowOf_3 (l : Launch) (D : va_G) (cI cB : ClassId) (x0 : Nat) (ro : Nat) (rn : Nat) (rt : Nat) (rr : Nat) (o : Nat) (g : Nat) (z : Nat) (nbs : Nat) (nwd : Nat)  : kC l yX4_rowOf cX4_rowOf 2 (some (.object "DeltaSync$Row")) 0 0 (0) (0) D cI cB [.ref x0, .int 3] [(x0, .inr (4, [.ref ro, .ref rn, .ref rt, .ref rr, .ref o, .ref g, .ref z, .int (nI nbs), .int (nI nwd)]))] (fun (vV : Option Value) (uU : va_W) => vV = some (.ref rr) ∧ uU = [(x0, .inr (4, [.ref ro, .ref rn, .ref rt, .ref rr, .ref o, .ref g, .ref z, .int (nI nbs), .int (nI nwd)]))]) := by
  refine k_entry (lv0 := [(0, .ref x0), (1, .int 3)]) (by decide) (Nat.le_of_ble_eq_true rfl) rfl ?_
  intro zp ze zs zm zb zt zc zA X hr hin
  refine k_iload_n X dX4_rowOf_0 rfl 1 rfl ?_
  refine k_tableIn (off := 46) (tgt := 47) X dX4_rowOf_1 (by decide) (by decide) (by decide) (by decide) ?_
  refine k_aload_n X dX4_rowOf_47 rfl 0 rfl ?_
  refine k_get (v := .ref rr) X 0 4 3 rfl rfl (by decide) fl_X4_24 in_X4 rfl rfl dX4_rowOf_48 ?_
  exact k_aret (u := [(x0, .inr (4, [.ref ro, .ref rn, .ref rt, .ref rr, .ref o, .ref g, .ref z, .int (nI nbs), .int (nI nwd)]))]) X (Or.inl ⟨_, rfl⟩) (Or.inr ⟨_, rfl⟩) hr [0] (by decide) rfl rfl (⟨rfl, rfl⟩) (by (try dsimp only); omega) (by (try dsimp only); omega) dX4_rowOf_51
set_option maxHeartbeats 4000000 in
set_option maxRecDepth 100000 in
theorem c_rowOf_f (l : Launch) (D : va_G) (cI cB : ClassId) (x0 : Nat) (ro : Nat) (rn : Nat) (rt : Nat) (rr : Nat) (o : Nat) (g : Nat) (z : Nat) (nbs : Nat) (nwd : Nat) (wh : Int32) (hwh : wh.toInt < 0 ∨ 3 < wh.toInt) : kC l yX4_rowOf cX4_rowOf 2 (some (.object "DeltaSync$Row")) 0 0 (0) (0) D cI cB [.ref x0, .int wh] [(x0, .inr (4, [.ref ro, .ref rn, .ref rt, .ref rr, .ref o, .ref g, .ref z, .int (nI nbs), .int (nI nwd)]))] (fun (vV : Option Value) (uU : va_W) => vV = some (.null) ∧ uU = [(x0, .inr (4, [.ref ro, .ref rn, .ref rt, .ref rr, .ref o, .ref g, .ref z, .int (nI nbs), .int (nI nwd)]))]) := by
  refine k_entry (lv0 := [(0, .ref x0), (1, .int wh)]) (by decide) (Nat.le_of_ble_eq_true rfl) rfl ?_
  intro zp ze zs zm zb zt zc zA X hr hin
  refine k_iload_n X dX4_rowOf_0 rfl 1 rfl ?_
  refine k_tableOut (tgt := 52) X dX4_rowOf_1 (hwh) (by decide) ?_
  refine k_aconst_null X dX4_rowOf_52 ?_
  exact k_aret (u := [(x0, .inr (4, [.ref ro, .ref rn, .ref rt, .ref rr, .ref o, .ref g, .ref z, .int (nI nbs), .int (nI nwd)]))]) X (Or.inl ⟨_, rfl⟩) (Or.inl rfl) hr [0] (by decide) rfl rfl (⟨rfl, rfl⟩) (by (try dsimp only); omega) (by (try dsimp only); omega) dX4_rowOf_53
set_option maxHeartbeats 4000000 in
set_option maxRecDepth 100000 in
theorem c_fileOf_0 (l : Launch) (D : va_G) (cI cB : ClassId) (x0 : Nat) (ro : Nat) (rn : Nat) (rt : Nat) (rr : Nat) (o : Nat) (g : Nat) (z : Nat) (nbs : Nat) (nwd : Nat)  : kC l yX4_fileOf cX4_fileOf 2 (some (.object "DeltaSync$Row")) 1 21 (0) (0) D cI cB [.ref x0, .int 0] [(x0, .inr (4, [.ref ro, .ref rn, .ref rt, .ref rr, .ref o, .ref g, .ref z, .int (nI nbs), .int (nI nwd)]))] (fun (vV : Option Value) (uU : va_W) => vV = some (.ref ro) ∧ uU = [(x0, .inr (4, [.ref ro, .ref rn, .ref rt, .ref rr, .ref o, .ref g, .ref z, .int (nI nbs), .int (nI nwd)]))]) := by
  refine k_entry (lv0 := [(0, .ref x0), (1, .int 0)]) (by decide) (Nat.le_of_ble_eq_true rfl) rfl ?_
  intro zp ze zs zm zb zt zc zA X hr hin
  refine k_iload_n X dX4_fileOf_0 rfl 1 rfl ?_
  refine k_if_eq (tgt := 9) (xi := (0 : Int)) X (by decide) dX4_fileOf_1 (by decide) (fun c_1 => ?_) (fun c_1 => ?_)
  · refine k_aload_n X dX4_fileOf_9 rfl 0 rfl ?_
    refine k_iload_n X dX4_fileOf_10 rfl 1 rfl ?_
    refine k_callV (wc := [(x0, .inr (4, [.ref ro, .ref rn, .ref rt, .ref rr, .ref o, .ref g, .ref z, .int (nI nbs), .int (nI nwd)]))]) (wr := []) (As := [.int 0]) (n := 1) (st := []) (q0 := 0) X (c_rowOf_0 l D cI cB x0 ro rn rt rr o g z nbs nwd ) rfl rfl ml_X4_104 im_X4_rowOf se_X4_rowOf ini_X4 co_X4_rowOf (by decide +kernel) rfl ⟨Nat.le_of_ble_eq_true rfl, Nat.le_of_ble_eq_true rfl⟩ (⟨by (try dsimp only); omega, by (try dsimp only); omega⟩) (Nat.le_of_ble_eq_true rfl) [0] [] rfl rfl rfl (by decide) (by decide) (by decide) rfl dX4_fileOf_11 (fun v_11 u_11 hu_11 => ?_)
    obtain ⟨rfl, rfl⟩ := hu_11
    refine k_to (ws' := [(x0, .inr (4, [.ref ro, .ref rn, .ref rt, .ref rr, .ref o, .ref g, .ref z, .int (nI nbs), .int (nI nwd)]))]) (st' := [.ref ro]) rfl rfl ?_
    refine k_goto (tgt := 18) X dX4_fileOf_14 (by decide) ?_
    exact k_aret (u := [(x0, .inr (4, [.ref ro, .ref rn, .ref rt, .ref rr, .ref o, .ref g, .ref z, .int (nI nbs), .int (nI nwd)]))]) X (Or.inl ⟨_, rfl⟩) (Or.inr ⟨_, rfl⟩) hr [0] (by decide) rfl rfl (⟨rfl, rfl⟩) (by (try dsimp only); omega) (by (try dsimp only); omega) dX4_fileOf_18
  · exact absurd c_1 (by decide)
set_option maxHeartbeats 4000000 in
set_option maxRecDepth 100000 in
theorem c_fileOf_1 (l : Launch) (D : va_G) (cI cB : ClassId) (x0 : Nat) (ro : Nat) (rn : Nat) (rt : Nat) (rr : Nat) (o : Nat) (g : Nat) (z : Nat) (nbs : Nat) (nwd : Nat)  : kC l yX4_fileOf cX4_fileOf 2 (some (.object "DeltaSync$Row")) 1 21 (0) (0) D cI cB [.ref x0, .int 1] [(x0, .inr (4, [.ref ro, .ref rn, .ref rt, .ref rr, .ref o, .ref g, .ref z, .int (nI nbs), .int (nI nwd)]))] (fun (vV : Option Value) (uU : va_W) => vV = some (.ref rn) ∧ uU = [(x0, .inr (4, [.ref ro, .ref rn, .ref rt, .ref rr, .ref o, .ref g, .ref z, .int (nI nbs), .int (nI nwd)]))]) := by
  refine k_entry (lv0 := [(0, .ref x0), (1, .int 1)]) (by decide) (Nat.le_of_ble_eq_true rfl) rfl ?_
  intro zp ze zs zm zb zt zc zA X hr hin
  refine k_iload_n X dX4_fileOf_0 rfl 1 rfl ?_
  refine k_if_eq (tgt := 9) (xi := (1 : Int)) X (by decide) dX4_fileOf_1 (by decide) (fun c_1 => ?_) (fun c_1 => ?_)
  · exact absurd c_1 (by decide)
  · refine k_iload_n X dX4_fileOf_4 rfl 1 rfl ?_
    refine k_iconst (v := 1) X dX4_fileOf_5 (by decide) ?_
    refine k_icmp_ne (tgt := 17) (xi := (1 : Int)) (yi := (1 : Int)) X (by decide) (by decide) dX4_fileOf_6 (by decide) (fun c_6 => ?_) (fun c_6 => ?_)
    · exact absurd c_6 (by decide)
    · refine k_aload_n X dX4_fileOf_9 rfl 0 rfl ?_
      refine k_iload_n X dX4_fileOf_10 rfl 1 rfl ?_
      refine k_callV (wc := [(x0, .inr (4, [.ref ro, .ref rn, .ref rt, .ref rr, .ref o, .ref g, .ref z, .int (nI nbs), .int (nI nwd)]))]) (wr := []) (As := [.int 1]) (n := 1) (st := []) (q0 := 0) X (c_rowOf_1 l D cI cB x0 ro rn rt rr o g z nbs nwd ) rfl rfl ml_X4_104 im_X4_rowOf se_X4_rowOf ini_X4 co_X4_rowOf (by decide +kernel) rfl ⟨Nat.le_of_ble_eq_true rfl, Nat.le_of_ble_eq_true rfl⟩ (⟨by (try dsimp only); omega, by (try dsimp only); omega⟩) (Nat.le_of_ble_eq_true rfl) [0] [] rfl rfl rfl (by decide) (by decide) (by decide) rfl dX4_fileOf_11 (fun v_11 u_11 hu_11 => ?_)
      obtain ⟨rfl, rfl⟩ := hu_11
      refine k_to (ws' := [(x0, .inr (4, [.ref ro, .ref rn, .ref rt, .ref rr, .ref o, .ref g, .ref z, .int (nI nbs), .int (nI nwd)]))]) (st' := [.ref rn]) rfl rfl ?_
      refine k_goto (tgt := 18) X dX4_fileOf_14 (by decide) ?_
      exact k_aret (u := [(x0, .inr (4, [.ref ro, .ref rn, .ref rt, .ref rr, .ref o, .ref g, .ref z, .int (nI nbs), .int (nI nwd)]))]) X (Or.inl ⟨_, rfl⟩) (Or.inr ⟨_, rfl⟩) hr [0] (by decide) rfl rfl (⟨rfl, rfl⟩) (by (try dsimp only); omega) (by (try dsimp only); omega) dX4_fileOf_18
set_option maxHeartbeats 4000000 in
set_option maxRecDepth 100000 in
theorem c_fileOf_f (l : Launch) (D : va_G) (cI cB : ClassId) (x0 : Nat) (ro : Nat) (rn : Nat) (rt : Nat) (rr : Nat) (o : Nat) (g : Nat) (z : Nat) (nbs : Nat) (nwd : Nat) (wh : Int32) (hwh : ¬ wh.toInt = 0 ∧ ¬ wh.toInt = 1) : kC l yX4_fileOf cX4_fileOf 2 (some (.object "DeltaSync$Row")) 0 0 (0) (0) D cI cB [.ref x0, .int wh] [(x0, .inr (4, [.ref ro, .ref rn, .ref rt, .ref rr, .ref o, .ref g, .ref z, .int (nI nbs), .int (nI nwd)]))] (fun (vV : Option Value) (uU : va_W) => vV = some (.null) ∧ uU = [(x0, .inr (4, [.ref ro, .ref rn, .ref rt, .ref rr, .ref o, .ref g, .ref z, .int (nI nbs), .int (nI nwd)]))]) := by
  refine k_entry (lv0 := [(0, .ref x0), (1, .int wh)]) (by decide) (Nat.le_of_ble_eq_true rfl) rfl ?_
  intro zp ze zs zm zb zt zc zA X hr hin
  refine k_iload_n X dX4_fileOf_0 rfl 1 rfl ?_
  refine k_if_eq (tgt := 9) (xi := wh.toInt) X (rfl) dX4_fileOf_1 (by decide) (fun c_1 => ?_) (fun c_1 => ?_)
  · exact absurd c_1 (by omega)
  · refine k_iload_n X dX4_fileOf_4 rfl 1 rfl ?_
    refine k_iconst (v := 1) X dX4_fileOf_5 (by decide) ?_
    refine k_icmp_ne (tgt := 17) (xi := wh.toInt) (yi := (1 : Int)) X (rfl) (by decide) dX4_fileOf_6 (by decide) (fun c_6 => ?_) (fun c_6 => ?_)
    · refine k_aconst_null X dX4_fileOf_17 ?_
      exact k_aret (u := [(x0, .inr (4, [.ref ro, .ref rn, .ref rt, .ref rr, .ref o, .ref g, .ref z, .int (nI nbs), .int (nI nwd)]))]) X (Or.inl ⟨_, rfl⟩) (Or.inl rfl) hr [0] (by decide) rfl rfl (⟨rfl, rfl⟩) (by (try dsimp only); omega) (by (try dsimp only); omega) dX4_fileOf_18
    · exact absurd c_6 (by omega)
set_option maxHeartbeats 4000000 in
set_option maxRecDepth 100000 in
theorem c_feed_0 (l : Launch) (D : va_G) (cI cB : ClassId) (x0 : Nat) (ro : Nat) (rn : Nat) (rt : Nat) (rr : Nat) (o : Nat) (g : Nat) (z : Nat) (nbs : Nat) (nwd : Nat) (ao : Nat) (no : Nat) (fo : Nat → Int32) (ko : Nat) (v : Int32) (hko : ko ≤ no) (hno : no ≤ 2000) (h1o : 1 ≤ no) (h4 : ko + 4 ≤ 2000) : kC l yX4_feed cX4_feed 5 (some .int) 4 104 (cst4 no ko) (cst4 no ko) D cI cB [.ref x0, .int 0, .int v] [(x0, .inr (4, [.ref ro, .ref rn, .ref rt, .ref rr, .ref o, .ref g, .ref z, .int (nI nbs), .int (nI nwd)])), (ro, .inr (1, [.int (nI 2000), .ref ao, .int (nI ko)])), (ao, .inl (cI, no, .inl fo))] (fun (vV : Option Value) (uU : va_W) => ∃ (a9 : Nat) (f9 : Nat → Int32), vV = some (.int (nI (ko + 4))) ∧ uU = [(x0, .inr (4, [.ref ro, .ref rn, .ref rt, .ref rr, .ref o, .ref g, .ref z, .int (nI nbs), .int (nI nwd)])), (ro, .inr (1, [.int (nI 2000), .ref a9, .int (nI (ko + 4))])), (a9, .inl (cI, (cap4 no ko), .inl f9))] ∧ (∀ j, j < ko → f9 j = fo j) ∧ (∀ j, j < 4 → f9 (ko + j) = fdB v j)) := by
  refine k_entry (lv0 := [(0, .ref x0), (1, .int 0), (2, .int v)]) (by decide) (Nat.le_of_ble_eq_true rfl) rfl ?_
  intro zp ze zs zm zb zt zc zA X hr hin
  have hcst : cst4 no ko = rCost 2000 no (ko + 1) + rCost 2000 (rCap 2000 no (ko + 1)) (ko + 1 + 1) + rCost 2000 (rCap 2000 (rCap 2000 no (ko + 1)) (ko + 1 + 1)) (ko + 1 + 1 + 1) + rCost 2000 (rCap 2000 (rCap 2000 (rCap 2000 no (ko + 1)) (ko + 1 + 1)) (ko + 1 + 1 + 1)) (ko + 1 + 1 + 1 + 1) := rfl
  refine k_aload_n X dX4_feed_0 rfl 0 rfl ?_
  refine k_iload_n X dX4_feed_1 rfl 1 rfl ?_
  refine k_callV (wc := [(x0, .inr (4, [.ref ro, .ref rn, .ref rt, .ref rr, .ref o, .ref g, .ref z, .int (nI nbs), .int (nI nwd)]))]) (wr := [(ro, .inr (1, [.int (nI 2000), .ref ao, .int (nI ko)])), (ao, .inl (cI, no, .inl fo))]) (As := [.int 0]) (n := 1) (st := []) (q0 := 0) X (c_fileOf_0 l D cI cB x0 ro rn rt rr o g z nbs nwd ) rfl rfl ml_X4_57 im_X4_fileOf se_X4_fileOf ini_X4 co_X4_fileOf (by decide +kernel) rfl ⟨Nat.le_of_ble_eq_true rfl, Nat.le_of_ble_eq_true rfl⟩ (⟨by (try dsimp only); omega, by (try dsimp only); omega⟩) (Nat.le_of_ble_eq_true rfl) [0] [1, 2] rfl rfl rfl (by decide) (by decide) (by decide) rfl dX4_feed_2 (fun v_2 u_2 hu_2 => ?_)
  obtain ⟨rfl, rfl⟩ := hu_2
  refine k_to (ws' := [(ro, .inr (1, [.int (nI 2000), .ref ao, .int (nI ko)])), (ao, .inl (cI, no, .inl fo)), (x0, .inr (4, [.ref ro, .ref rn, .ref rt, .ref rr, .ref o, .ref g, .ref z, .int (nI nbs), .int (nI nwd)]))]) (st' := [.ref ro]) rfl rfl ?_
  refine k_astore_n (lv' := [(3, .ref ro), (0, .ref x0), (1, .int 0), (2, .int v)]) X dX4_feed_5 rfl (by decide) rfl ?_
  refine k_aload_n X dX4_feed_6 rfl 0 rfl ?_
  refine k_ifnull X dX4_feed_7 ?_
  refine k_aload_n X dX4_feed_10 rfl 0 rfl ?_
  refine k_callV (wc := [(ro, .inr (1, [.int (nI 2000), .ref ao, .int (nI ko)]))]) (wr := [(ao, .inl (cI, no, .inl fo)), (x0, .inr (4, [.ref ro, .ref rn, .ref rt, .ref rr, .ref o, .ref g, .ref z, .int (nI nbs), .int (nI nwd)]))]) (As := []) (n := 0) (st := []) (q0 := 0) X (c_room l D cI cB ro ao 2000 ko (by omega) (by omega)) rfl rfl ml_X4_61 im_X1_room se_X1_room ini_X1 co_X1_room (by decide +kernel) rfl ⟨Nat.le_of_ble_eq_true rfl, Nat.le_of_ble_eq_true rfl⟩ (⟨by (try dsimp only); omega, by (try dsimp only); omega⟩) (Nat.le_of_ble_eq_true rfl) [0] [1, 2] rfl rfl rfl (by decide) (by decide) (by decide) rfl dX4_feed_11 (fun v_11 u_11 hu_11 => ?_)
  obtain ⟨rfl, rfl⟩ := hu_11
  refine k_to (ws' := [(ao, .inl (cI, no, .inl fo)), (x0, .inr (4, [.ref ro, .ref rn, .ref rt, .ref rr, .ref o, .ref g, .ref z, .int (nI nbs), .int (nI nwd)])), (ro, .inr (1, [.int (nI 2000), .ref ao, .int (nI ko)]))]) (st' := [.int (nI (2000 - ko))]) rfl rfl ?_
  refine k_iconst (v := 4) X dX4_feed_14 (by decide) ?_
  refine k_icmp_ge (tgt := 20) (xi := (((2000 - ko) : Nat) : Int)) (yi := (4 : Int)) X (nI_toInt (by omega)) (by decide) dX4_feed_15 (by decide) (fun c_15 => ?_) (fun c_15 => ?_)
  · refine k_bipush (v := 24) X dX4_feed_20 (by decide) ?_
    refine k_istore (lv' := [(4, .int 24), (3, .ref ro), (0, .ref x0), (1, .int 0), (2, .int v)]) X dX4_feed_22 (by decide) rfl ?_
    refine k_iload X dX4_feed_24 0 rfl ?_
    refine k_if_lt (tgt := 48) (xi := (24 : Int)) X (by decide) dX4_feed_26 (by decide) (fun c_26 => ?_) (fun c_26 => ?_)
    · exact absurd c_26 (by decide)
    · refine k_aload_n X dX4_feed_29 rfl 1 rfl ?_
      refine k_iload_n X dX4_feed_30 rfl 4 rfl ?_
      refine k_iload X dX4_feed_31 0 rfl ?_
      refine k_iushr (v := (v.toUInt32 >>> (Int32.toUInt32 24 &&& Int32.toUInt32 31)).toInt32) X dX4_feed_33 rfl ?_
      refine k_sipush (v := 255) X dX4_feed_34 (by decide) ?_
      refine k_iand X dX4_feed_37 ?_
      refine k_callV (wc := [(ro, .inr (1, [.int (nI 2000), .ref ao, .int (nI ko)])), (ao, .inl (cI, no, .inl fo))]) (wr := [(x0, .inr (4, [.ref ro, .ref rn, .ref rt, .ref rr, .ref o, .ref g, .ref z, .int (nI nbs), .int (nI nwd)]))]) (As := [.int (((v.toUInt32 >>> (Int32.toUInt32 24 &&& Int32.toUInt32 31)).toInt32) &&& 255)]) (n := 1) (st := []) (q0 := 0) X (c_add l D cI cB ro ao 2000 ko no fo (((v.toUInt32 >>> (Int32.toUInt32 24 &&& Int32.toUInt32 31)).toInt32) &&& 255) (hko) (hno) (by omega) (h1o) (by omega) (and255 _)) rfl rfl ml_X4_65 im_X1_add se_X1_add ini_X1 co_X1_add (by decide +kernel) rfl ⟨Nat.le_of_ble_eq_true rfl, Nat.le_of_ble_eq_true rfl⟩ (⟨by (try dsimp only); omega, by (try dsimp only); omega⟩) (Nat.le_of_ble_eq_true rfl) [2, 0] [1] rfl rfl rfl (by decide) (by decide) (by decide) rfl dX4_feed_38 (fun v_38 u_38 hu_38 => ?_)
      obtain ⟨a3, f3, rfl, rfl, p3, q3⟩ := hu_38
      refine k_to (ws' := [(x0, .inr (4, [.ref ro, .ref rn, .ref rt, .ref rr, .ref o, .ref g, .ref z, .int (nI nbs), .int (nI nwd)])), (ro, .inr (1, [.int (nI 2000), .ref a3, .int (nI (ko + 1))])), (a3, .inl (cI, rCap 2000 no (ko + 1), .inl f3))]) (st' := [.int 1]) rfl rfl ?_
      have hc0 := cap_ok hno (show ko + 1 ≤ 2000 by omega) h1o
      refine k_pop X dX4_feed_41 rfl ?_
      refine k_iinc (v := 16) (lv' := [(4, .int 16), (3, .ref ro), (0, .ref x0), (1, .int 0), (2, .int v)]) X dX4_feed_42 0 rfl (by decide) (by decide) rfl ?_
      refine k_goto (tgt := 24) X dX4_feed_45 (by decide) ?_
      refine k_iload X dX4_feed_24 0 rfl ?_
      refine k_if_lt (tgt := 48) (xi := (16 : Int)) X (by decide) dX4_feed_26 (by decide) (fun c_26 => ?_) (fun c_26 => ?_)
      · exact absurd c_26 (by decide)
      · refine k_aload_n X dX4_feed_29 rfl 1 rfl ?_
        refine k_iload_n X dX4_feed_30 rfl 4 rfl ?_
        refine k_iload X dX4_feed_31 0 rfl ?_
        refine k_iushr (v := (v.toUInt32 >>> (Int32.toUInt32 16 &&& Int32.toUInt32 31)).toInt32) X dX4_feed_33 rfl ?_
        refine k_sipush (v := 255) X dX4_feed_34 (by decide) ?_
        refine k_iand X dX4_feed_37 ?_
        refine k_callV (wc := [(ro, .inr (1, [.int (nI 2000), .ref a3, .int (nI (ko + 1))])), (a3, .inl (cI, (rCap 2000 no (ko + 1)), .inl f3))]) (wr := [(x0, .inr (4, [.ref ro, .ref rn, .ref rt, .ref rr, .ref o, .ref g, .ref z, .int (nI nbs), .int (nI nwd)]))]) (As := [.int (((v.toUInt32 >>> (Int32.toUInt32 16 &&& Int32.toUInt32 31)).toInt32) &&& 255)]) (n := 1) (st := []) (q0 := 0) X (c_add l D cI cB ro a3 2000 (ko + 1) (rCap 2000 no (ko + 1)) f3 (((v.toUInt32 >>> (Int32.toUInt32 16 &&& Int32.toUInt32 31)).toInt32) &&& 255) (hc0.1) (hc0.2.1) (by omega) (hc0.2.2.1) (by omega) (and255 _)) rfl rfl ml_X4_65 im_X1_add se_X1_add ini_X1 co_X1_add (by decide +kernel) rfl ⟨Nat.le_of_ble_eq_true rfl, Nat.le_of_ble_eq_true rfl⟩ (⟨by (try dsimp only); omega, by (try dsimp only); omega⟩) (Nat.le_of_ble_eq_true rfl) [1, 2] [0] rfl rfl rfl (by decide) (by decide) (by decide) rfl dX4_feed_38 (fun v_38 u_38 hu_38 => ?_)
        obtain ⟨a4, f4, rfl, rfl, p4, q4⟩ := hu_38
        refine k_to (ws' := [(x0, .inr (4, [.ref ro, .ref rn, .ref rt, .ref rr, .ref o, .ref g, .ref z, .int (nI nbs), .int (nI nwd)])), (ro, .inr (1, [.int (nI 2000), .ref a4, .int (nI ((ko + 1) + 1))])), (a4, .inl (cI, rCap 2000 (rCap 2000 no (ko + 1)) ((ko + 1) + 1), .inl f4))]) (st' := [.int 1]) rfl rfl ?_
        have hc1 := cap_ok hc0.2.1 (show ko + 1 + 1 ≤ 2000 by omega) hc0.2.2.1
        refine k_pop X dX4_feed_41 rfl ?_
        refine k_iinc (v := 8) (lv' := [(4, .int 8), (3, .ref ro), (0, .ref x0), (1, .int 0), (2, .int v)]) X dX4_feed_42 0 rfl (by decide) (by decide) rfl ?_
        refine k_goto (tgt := 24) X dX4_feed_45 (by decide) ?_
        refine k_iload X dX4_feed_24 0 rfl ?_
        refine k_if_lt (tgt := 48) (xi := (8 : Int)) X (by decide) dX4_feed_26 (by decide) (fun c_26 => ?_) (fun c_26 => ?_)
        · exact absurd c_26 (by decide)
        · refine k_aload_n X dX4_feed_29 rfl 1 rfl ?_
          refine k_iload_n X dX4_feed_30 rfl 4 rfl ?_
          refine k_iload X dX4_feed_31 0 rfl ?_
          refine k_iushr (v := (v.toUInt32 >>> (Int32.toUInt32 8 &&& Int32.toUInt32 31)).toInt32) X dX4_feed_33 rfl ?_
          refine k_sipush (v := 255) X dX4_feed_34 (by decide) ?_
          refine k_iand X dX4_feed_37 ?_
          refine k_callV (wc := [(ro, .inr (1, [.int (nI 2000), .ref a4, .int (nI ((ko + 1) + 1))])), (a4, .inl (cI, (rCap 2000 (rCap 2000 no (ko + 1)) ((ko + 1) + 1)), .inl f4))]) (wr := [(x0, .inr (4, [.ref ro, .ref rn, .ref rt, .ref rr, .ref o, .ref g, .ref z, .int (nI nbs), .int (nI nwd)]))]) (As := [.int (((v.toUInt32 >>> (Int32.toUInt32 8 &&& Int32.toUInt32 31)).toInt32) &&& 255)]) (n := 1) (st := []) (q0 := 0) X (c_add l D cI cB ro a4 2000 ((ko + 1) + 1) (rCap 2000 (rCap 2000 no (ko + 1)) ((ko + 1) + 1)) f4 (((v.toUInt32 >>> (Int32.toUInt32 8 &&& Int32.toUInt32 31)).toInt32) &&& 255) (hc1.1) (hc1.2.1) (by omega) (hc1.2.2.1) (by omega) (and255 _)) rfl rfl ml_X4_65 im_X1_add se_X1_add ini_X1 co_X1_add (by decide +kernel) rfl ⟨Nat.le_of_ble_eq_true rfl, Nat.le_of_ble_eq_true rfl⟩ (⟨by (try dsimp only); omega, by (try dsimp only); omega⟩) (Nat.le_of_ble_eq_true rfl) [1, 2] [0] rfl rfl rfl (by decide) (by decide) (by decide) rfl dX4_feed_38 (fun v_38 u_38 hu_38 => ?_)
          obtain ⟨a5, f5, rfl, rfl, p5, q5⟩ := hu_38
          refine k_to (ws' := [(x0, .inr (4, [.ref ro, .ref rn, .ref rt, .ref rr, .ref o, .ref g, .ref z, .int (nI nbs), .int (nI nwd)])), (ro, .inr (1, [.int (nI 2000), .ref a5, .int (nI (((ko + 1) + 1) + 1))])), (a5, .inl (cI, rCap 2000 (rCap 2000 (rCap 2000 no (ko + 1)) ((ko + 1) + 1)) (((ko + 1) + 1) + 1), .inl f5))]) (st' := [.int 1]) rfl rfl ?_
          have hc2 := cap_ok hc1.2.1 (show ko + 1 + 1 + 1 ≤ 2000 by omega) hc1.2.2.1
          refine k_pop X dX4_feed_41 rfl ?_
          refine k_iinc (v := 0) (lv' := [(4, .int 0), (3, .ref ro), (0, .ref x0), (1, .int 0), (2, .int v)]) X dX4_feed_42 0 rfl (by decide) (by decide) rfl ?_
          refine k_goto (tgt := 24) X dX4_feed_45 (by decide) ?_
          refine k_iload X dX4_feed_24 0 rfl ?_
          refine k_if_lt (tgt := 48) (xi := (0 : Int)) X (by decide) dX4_feed_26 (by decide) (fun c_26 => ?_) (fun c_26 => ?_)
          · exact absurd c_26 (by decide)
          · refine k_aload_n X dX4_feed_29 rfl 1 rfl ?_
            refine k_iload_n X dX4_feed_30 rfl 4 rfl ?_
            refine k_iload X dX4_feed_31 0 rfl ?_
            refine k_iushr (v := (v.toUInt32 >>> (Int32.toUInt32 0 &&& Int32.toUInt32 31)).toInt32) X dX4_feed_33 rfl ?_
            refine k_sipush (v := 255) X dX4_feed_34 (by decide) ?_
            refine k_iand X dX4_feed_37 ?_
            refine k_callV (wc := [(ro, .inr (1, [.int (nI 2000), .ref a5, .int (nI (((ko + 1) + 1) + 1))])), (a5, .inl (cI, (rCap 2000 (rCap 2000 (rCap 2000 no (ko + 1)) ((ko + 1) + 1)) (((ko + 1) + 1) + 1)), .inl f5))]) (wr := [(x0, .inr (4, [.ref ro, .ref rn, .ref rt, .ref rr, .ref o, .ref g, .ref z, .int (nI nbs), .int (nI nwd)]))]) (As := [.int (((v.toUInt32 >>> (Int32.toUInt32 0 &&& Int32.toUInt32 31)).toInt32) &&& 255)]) (n := 1) (st := []) (q0 := 0) X (c_add l D cI cB ro a5 2000 (((ko + 1) + 1) + 1) (rCap 2000 (rCap 2000 (rCap 2000 no (ko + 1)) ((ko + 1) + 1)) (((ko + 1) + 1) + 1)) f5 (((v.toUInt32 >>> (Int32.toUInt32 0 &&& Int32.toUInt32 31)).toInt32) &&& 255) (hc2.1) (hc2.2.1) (by omega) (hc2.2.2.1) (by omega) (and255 _)) rfl rfl ml_X4_65 im_X1_add se_X1_add ini_X1 co_X1_add (by decide +kernel) rfl ⟨Nat.le_of_ble_eq_true rfl, Nat.le_of_ble_eq_true rfl⟩ (⟨by (try dsimp only); omega, by (try dsimp only); omega⟩) (Nat.le_of_ble_eq_true rfl) [1, 2] [0] rfl rfl rfl (by decide) (by decide) (by decide) rfl dX4_feed_38 (fun v_38 u_38 hu_38 => ?_)
            obtain ⟨a6, f6, rfl, rfl, p6, q6⟩ := hu_38
            refine k_to (ws' := [(x0, .inr (4, [.ref ro, .ref rn, .ref rt, .ref rr, .ref o, .ref g, .ref z, .int (nI nbs), .int (nI nwd)])), (ro, .inr (1, [.int (nI 2000), .ref a6, .int (nI ((((ko + 1) + 1) + 1) + 1))])), (a6, .inl (cI, rCap 2000 (rCap 2000 (rCap 2000 (rCap 2000 no (ko + 1)) ((ko + 1) + 1)) (((ko + 1) + 1) + 1)) ((((ko + 1) + 1) + 1) + 1), .inl f6))]) (st' := [.int 1]) rfl rfl ?_
            have hc3 := cap_ok hc2.2.1 (show ko + 1 + 1 + 1 + 1 ≤ 2000 by omega) hc2.2.2.1
            refine k_pop X dX4_feed_41 rfl ?_
            refine k_iinc (v := -8) (lv' := [(4, .int (-8)), (3, .ref ro), (0, .ref x0), (1, .int 0), (2, .int v)]) X dX4_feed_42 0 rfl (by decide) (by decide) rfl ?_
            refine k_goto (tgt := 24) X dX4_feed_45 (by decide) ?_
            refine k_iload X dX4_feed_24 0 rfl ?_
            refine k_if_lt (tgt := 48) (xi := (-8 : Int)) X (by decide) dX4_feed_26 (by decide) (fun c_26 => ?_) (fun c_26 => ?_)
            · refine k_aload_n X dX4_feed_48 rfl 1 rfl ?_
              refine k_callV (wc := [(ro, .inr (1, [.int (nI 2000), .ref a6, .int (nI ((((ko + 1) + 1) + 1) + 1))]))]) (wr := [(x0, .inr (4, [.ref ro, .ref rn, .ref rt, .ref rr, .ref o, .ref g, .ref z, .int (nI nbs), .int (nI nwd)])), (a6, .inl (cI, rCap 2000 (rCap 2000 (rCap 2000 (rCap 2000 no (ko + 1)) ((ko + 1) + 1)) (((ko + 1) + 1) + 1)) ((((ko + 1) + 1) + 1) + 1), .inl f6))]) (As := []) (n := 0) (st := []) (q0 := 0) X (c_length l D cI cB ro a6 2000 ((((ko + 1) + 1) + 1) + 1) ) rfl rfl ml_X4_69 im_X1_length se_X1_length ini_X1 co_X1_length (by decide +kernel) rfl ⟨Nat.le_of_ble_eq_true rfl, Nat.le_of_ble_eq_true rfl⟩ (⟨by (try dsimp only); omega, by (try dsimp only); omega⟩) (Nat.le_of_ble_eq_true rfl) [1] [0, 2] rfl rfl rfl (by decide) (by decide) (by decide) rfl dX4_feed_49 (fun v_49 u_49 hu_49 => ?_)
              obtain ⟨rfl, rfl⟩ := hu_49
              refine k_to (ws' := [(x0, .inr (4, [.ref ro, .ref rn, .ref rt, .ref rr, .ref o, .ref g, .ref z, .int (nI nbs), .int (nI nwd)])), (a6, .inl (cI, rCap 2000 (rCap 2000 (rCap 2000 (rCap 2000 no (ko + 1)) ((ko + 1) + 1)) (((ko + 1) + 1) + 1)) ((((ko + 1) + 1) + 1) + 1), .inl f6)), (ro, .inr (1, [.int (nI 2000), .ref a6, .int (nI ((((ko + 1) + 1) + 1) + 1))]))]) (st' := [.int (nI ((((ko + 1) + 1) + 1) + 1))]) rfl rfl ?_
              exact k_iret (u := [(x0, .inr (4, [.ref ro, .ref rn, .ref rt, .ref rr, .ref o, .ref g, .ref z, .int (nI nbs), .int (nI nwd)])), (ro, .inr (1, [.int (nI 2000), .ref a6, .int (nI ((((ko + 1) + 1) + 1) + 1))])), (a6, .inl (cI, rCap 2000 (rCap 2000 (rCap 2000 (rCap 2000 no (ko + 1)) ((ko + 1) + 1)) (((ko + 1) + 1) + 1)) ((((ko + 1) + 1) + 1) + 1), .inl f6))]) X hr [0, 2, 1] (by decide) rfl rfl (⟨a6, f6, rfl, rfl, fun j hj => by rw [q6 j (by omega), q5 j (by omega), q4 j (by omega), q3 j hj], fun j hj => by
                rcases (show j = 0 ∨ j = 1 ∨ j = 2 ∨ j = 3 by omega) with rfl | rfl | rfl | rfl
                · rw [show ko + 0 = ko from rfl, q6 _ (by omega), q5 _ (by omega), q4 _ (by omega), p3]; rfl
                · rw [q6 _ (by omega), q5 _ (by omega), p4]; rfl
                · rw [q6 _ (by omega), show ko + 2 = ko + 1 + 1 from rfl, p5]; rfl
                · rw [show ko + 3 = ko + 1 + 1 + 1 from rfl, p6]; rfl⟩) (by (try dsimp only); omega) (by (try dsimp only); omega) dX4_feed_52
            · exact absurd c_26 (by decide)
  · exact absurd c_15 (by omega)
set_option maxHeartbeats 4000000 in
set_option maxRecDepth 100000 in
theorem c_feed_0f (l : Launch) (D : va_G) (cI cB : ClassId) (x0 : Nat) (ro : Nat) (rn : Nat) (rt : Nat) (rr : Nat) (o : Nat) (g : Nat) (z : Nat) (nbs : Nat) (nwd : Nat) (ao : Nat) (ko : Nat) (v : Int32) (hk : ko ≤ 2000) (h4 : ¬ ko + 4 ≤ 2000) : kC l yX4_feed cX4_feed 5 (some .int) 2 42 (0) (0) D cI cB [.ref x0, .int 0, .int v] [(x0, .inr (4, [.ref ro, .ref rn, .ref rt, .ref rr, .ref o, .ref g, .ref z, .int (nI nbs), .int (nI nwd)])), (ro, .inr (1, [.int (nI 2000), .ref ao, .int (nI ko)]))] (fun (vV : Option Value) (uU : va_W) => vV = some (.int (-1)) ∧ uU = [(x0, .inr (4, [.ref ro, .ref rn, .ref rt, .ref rr, .ref o, .ref g, .ref z, .int (nI nbs), .int (nI nwd)])), (ro, .inr (1, [.int (nI 2000), .ref ao, .int (nI ko)]))]) := by
  refine k_entry (lv0 := [(0, .ref x0), (1, .int 0), (2, .int v)]) (by decide) (Nat.le_of_ble_eq_true rfl) rfl ?_
  intro zp ze zs zm zb zt zc zA X hr hin
  refine k_aload_n X dX4_feed_0 rfl 0 rfl ?_
  refine k_iload_n X dX4_feed_1 rfl 1 rfl ?_
  refine k_callV (wc := [(x0, .inr (4, [.ref ro, .ref rn, .ref rt, .ref rr, .ref o, .ref g, .ref z, .int (nI nbs), .int (nI nwd)]))]) (wr := [(ro, .inr (1, [.int (nI 2000), .ref ao, .int (nI ko)]))]) (As := [.int 0]) (n := 1) (st := []) (q0 := 0) X (c_fileOf_0 l D cI cB x0 ro rn rt rr o g z nbs nwd ) rfl rfl ml_X4_57 im_X4_fileOf se_X4_fileOf ini_X4 co_X4_fileOf (by decide +kernel) rfl ⟨Nat.le_of_ble_eq_true rfl, Nat.le_of_ble_eq_true rfl⟩ (⟨by (try dsimp only); omega, by (try dsimp only); omega⟩) (Nat.le_of_ble_eq_true rfl) [0] [1] rfl rfl rfl (by decide) (by decide) (by decide) rfl dX4_feed_2 (fun v_2 u_2 hu_2 => ?_)
  obtain ⟨rfl, rfl⟩ := hu_2
  refine k_to (ws' := [(ro, .inr (1, [.int (nI 2000), .ref ao, .int (nI ko)])), (x0, .inr (4, [.ref ro, .ref rn, .ref rt, .ref rr, .ref o, .ref g, .ref z, .int (nI nbs), .int (nI nwd)]))]) (st' := [.ref ro]) rfl rfl ?_
  refine k_astore_n (lv' := [(3, .ref ro), (0, .ref x0), (1, .int 0), (2, .int v)]) X dX4_feed_5 rfl (by decide) rfl ?_
  refine k_aload_n X dX4_feed_6 rfl 0 rfl ?_
  refine k_ifnull X dX4_feed_7 ?_
  refine k_aload_n X dX4_feed_10 rfl 0 rfl ?_
  refine k_callV (wc := [(ro, .inr (1, [.int (nI 2000), .ref ao, .int (nI ko)]))]) (wr := [(x0, .inr (4, [.ref ro, .ref rn, .ref rt, .ref rr, .ref o, .ref g, .ref z, .int (nI nbs), .int (nI nwd)]))]) (As := []) (n := 0) (st := []) (q0 := 0) X (c_room l D cI cB ro ao 2000 ko (by omega) (by omega)) rfl rfl ml_X4_61 im_X1_room se_X1_room ini_X1 co_X1_room (by decide +kernel) rfl ⟨Nat.le_of_ble_eq_true rfl, Nat.le_of_ble_eq_true rfl⟩ (⟨by (try dsimp only); omega, by (try dsimp only); omega⟩) (Nat.le_of_ble_eq_true rfl) [0] [1] rfl rfl rfl (by decide) (by decide) (by decide) rfl dX4_feed_11 (fun v_11 u_11 hu_11 => ?_)
  obtain ⟨rfl, rfl⟩ := hu_11
  refine k_to (ws' := [(x0, .inr (4, [.ref ro, .ref rn, .ref rt, .ref rr, .ref o, .ref g, .ref z, .int (nI nbs), .int (nI nwd)])), (ro, .inr (1, [.int (nI 2000), .ref ao, .int (nI ko)]))]) (st' := [.int (nI (2000 - ko))]) rfl rfl ?_
  refine k_iconst (v := 4) X dX4_feed_14 (by decide) ?_
  refine k_icmp_ge (tgt := 20) (xi := (((2000 - ko) : Nat) : Int)) (yi := (4 : Int)) X (nI_toInt (by omega)) (by decide) dX4_feed_15 (by decide) (fun c_15 => ?_) (fun c_15 => ?_)
  · exact absurd c_15 (by omega)
  · refine k_iconst (v := -1) X dX4_feed_18 (by decide) ?_
    exact k_iret (u := [(x0, .inr (4, [.ref ro, .ref rn, .ref rt, .ref rr, .ref o, .ref g, .ref z, .int (nI nbs), .int (nI nwd)])), (ro, .inr (1, [.int (nI 2000), .ref ao, .int (nI ko)]))]) X hr [0, 1] (by decide) rfl rfl (⟨rfl, rfl⟩) (by (try dsimp only); omega) (by (try dsimp only); omega) dX4_feed_19
set_option maxHeartbeats 4000000 in
set_option maxRecDepth 100000 in
theorem c_feed_1 (l : Launch) (D : va_G) (cI cB : ClassId) (x0 : Nat) (ro : Nat) (rn : Nat) (rt : Nat) (rr : Nat) (o : Nat) (g : Nat) (z : Nat) (nbs : Nat) (nwd : Nat) (an : Nat) (nn : Nat) (fw : Nat → Int32) (kn : Nat) (v : Int32) (hkn : kn ≤ nn) (hnn : nn ≤ 2000) (h1n : 1 ≤ nn) (h4 : kn + 4 ≤ 2000) : kC l yX4_feed cX4_feed 5 (some .int) 4 104 (cst4 nn kn) (cst4 nn kn) D cI cB [.ref x0, .int 1, .int v] [(x0, .inr (4, [.ref ro, .ref rn, .ref rt, .ref rr, .ref o, .ref g, .ref z, .int (nI nbs), .int (nI nwd)])), (rn, .inr (1, [.int (nI 2000), .ref an, .int (nI kn)])), (an, .inl (cI, nn, .inl fw))] (fun (vV : Option Value) (uU : va_W) => ∃ (a9 : Nat) (f9 : Nat → Int32), vV = some (.int (nI (kn + 4))) ∧ uU = [(x0, .inr (4, [.ref ro, .ref rn, .ref rt, .ref rr, .ref o, .ref g, .ref z, .int (nI nbs), .int (nI nwd)])), (rn, .inr (1, [.int (nI 2000), .ref a9, .int (nI (kn + 4))])), (a9, .inl (cI, (cap4 nn kn), .inl f9))] ∧ (∀ j, j < kn → f9 j = fw j) ∧ (∀ j, j < 4 → f9 (kn + j) = fdB v j)) := by
  refine k_entry (lv0 := [(0, .ref x0), (1, .int 1), (2, .int v)]) (by decide) (Nat.le_of_ble_eq_true rfl) rfl ?_
  intro zp ze zs zm zb zt zc zA X hr hin
  have hcst : cst4 nn kn = rCost 2000 nn (kn + 1) + rCost 2000 (rCap 2000 nn (kn + 1)) (kn + 1 + 1) + rCost 2000 (rCap 2000 (rCap 2000 nn (kn + 1)) (kn + 1 + 1)) (kn + 1 + 1 + 1) + rCost 2000 (rCap 2000 (rCap 2000 (rCap 2000 nn (kn + 1)) (kn + 1 + 1)) (kn + 1 + 1 + 1)) (kn + 1 + 1 + 1 + 1) := rfl
  refine k_aload_n X dX4_feed_0 rfl 0 rfl ?_
  refine k_iload_n X dX4_feed_1 rfl 1 rfl ?_
  refine k_callV (wc := [(x0, .inr (4, [.ref ro, .ref rn, .ref rt, .ref rr, .ref o, .ref g, .ref z, .int (nI nbs), .int (nI nwd)]))]) (wr := [(rn, .inr (1, [.int (nI 2000), .ref an, .int (nI kn)])), (an, .inl (cI, nn, .inl fw))]) (As := [.int 1]) (n := 1) (st := []) (q0 := 0) X (c_fileOf_1 l D cI cB x0 ro rn rt rr o g z nbs nwd ) rfl rfl ml_X4_57 im_X4_fileOf se_X4_fileOf ini_X4 co_X4_fileOf (by decide +kernel) rfl ⟨Nat.le_of_ble_eq_true rfl, Nat.le_of_ble_eq_true rfl⟩ (⟨by (try dsimp only); omega, by (try dsimp only); omega⟩) (Nat.le_of_ble_eq_true rfl) [0] [1, 2] rfl rfl rfl (by decide) (by decide) (by decide) rfl dX4_feed_2 (fun v_2 u_2 hu_2 => ?_)
  obtain ⟨rfl, rfl⟩ := hu_2
  refine k_to (ws' := [(rn, .inr (1, [.int (nI 2000), .ref an, .int (nI kn)])), (an, .inl (cI, nn, .inl fw)), (x0, .inr (4, [.ref ro, .ref rn, .ref rt, .ref rr, .ref o, .ref g, .ref z, .int (nI nbs), .int (nI nwd)]))]) (st' := [.ref rn]) rfl rfl ?_
  refine k_astore_n (lv' := [(3, .ref rn), (0, .ref x0), (1, .int 1), (2, .int v)]) X dX4_feed_5 rfl (by decide) rfl ?_
  refine k_aload_n X dX4_feed_6 rfl 0 rfl ?_
  refine k_ifnull X dX4_feed_7 ?_
  refine k_aload_n X dX4_feed_10 rfl 0 rfl ?_
  refine k_callV (wc := [(rn, .inr (1, [.int (nI 2000), .ref an, .int (nI kn)]))]) (wr := [(an, .inl (cI, nn, .inl fw)), (x0, .inr (4, [.ref ro, .ref rn, .ref rt, .ref rr, .ref o, .ref g, .ref z, .int (nI nbs), .int (nI nwd)]))]) (As := []) (n := 0) (st := []) (q0 := 0) X (c_room l D cI cB rn an 2000 kn (by omega) (by omega)) rfl rfl ml_X4_61 im_X1_room se_X1_room ini_X1 co_X1_room (by decide +kernel) rfl ⟨Nat.le_of_ble_eq_true rfl, Nat.le_of_ble_eq_true rfl⟩ (⟨by (try dsimp only); omega, by (try dsimp only); omega⟩) (Nat.le_of_ble_eq_true rfl) [0] [1, 2] rfl rfl rfl (by decide) (by decide) (by decide) rfl dX4_feed_11 (fun v_11 u_11 hu_11 => ?_)
  obtain ⟨rfl, rfl⟩ := hu_11
  refine k_to (ws' := [(an, .inl (cI, nn, .inl fw)), (x0, .inr (4, [.ref ro, .ref rn, .ref rt, .ref rr, .ref o, .ref g, .ref z, .int (nI nbs), .int (nI nwd)])), (rn, .inr (1, [.int (nI 2000), .ref an, .int (nI kn)]))]) (st' := [.int (nI (2000 - kn))]) rfl rfl ?_
  refine k_iconst (v := 4) X dX4_feed_14 (by decide) ?_
  refine k_icmp_ge (tgt := 20) (xi := (((2000 - kn) : Nat) : Int)) (yi := (4 : Int)) X (nI_toInt (by omega)) (by decide) dX4_feed_15 (by decide) (fun c_15 => ?_) (fun c_15 => ?_)
  · refine k_bipush (v := 24) X dX4_feed_20 (by decide) ?_
    refine k_istore (lv' := [(4, .int 24), (3, .ref rn), (0, .ref x0), (1, .int 1), (2, .int v)]) X dX4_feed_22 (by decide) rfl ?_
    refine k_iload X dX4_feed_24 0 rfl ?_
    refine k_if_lt (tgt := 48) (xi := (24 : Int)) X (by decide) dX4_feed_26 (by decide) (fun c_26 => ?_) (fun c_26 => ?_)
    · exact absurd c_26 (by decide)
    · refine k_aload_n X dX4_feed_29 rfl 1 rfl ?_
      refine k_iload_n X dX4_feed_30 rfl 4 rfl ?_
      refine k_iload X dX4_feed_31 0 rfl ?_
      refine k_iushr (v := (v.toUInt32 >>> (Int32.toUInt32 24 &&& Int32.toUInt32 31)).toInt32) X dX4_feed_33 rfl ?_
      refine k_sipush (v := 255) X dX4_feed_34 (by decide) ?_
      refine k_iand X dX4_feed_37 ?_
      refine k_callV (wc := [(rn, .inr (1, [.int (nI 2000), .ref an, .int (nI kn)])), (an, .inl (cI, nn, .inl fw))]) (wr := [(x0, .inr (4, [.ref ro, .ref rn, .ref rt, .ref rr, .ref o, .ref g, .ref z, .int (nI nbs), .int (nI nwd)]))]) (As := [.int (((v.toUInt32 >>> (Int32.toUInt32 24 &&& Int32.toUInt32 31)).toInt32) &&& 255)]) (n := 1) (st := []) (q0 := 0) X (c_add l D cI cB rn an 2000 kn nn fw (((v.toUInt32 >>> (Int32.toUInt32 24 &&& Int32.toUInt32 31)).toInt32) &&& 255) (hkn) (hnn) (by omega) (h1n) (by omega) (and255 _)) rfl rfl ml_X4_65 im_X1_add se_X1_add ini_X1 co_X1_add (by decide +kernel) rfl ⟨Nat.le_of_ble_eq_true rfl, Nat.le_of_ble_eq_true rfl⟩ (⟨by (try dsimp only); omega, by (try dsimp only); omega⟩) (Nat.le_of_ble_eq_true rfl) [2, 0] [1] rfl rfl rfl (by decide) (by decide) (by decide) rfl dX4_feed_38 (fun v_38 u_38 hu_38 => ?_)
      obtain ⟨a3, f3, rfl, rfl, p3, q3⟩ := hu_38
      refine k_to (ws' := [(x0, .inr (4, [.ref ro, .ref rn, .ref rt, .ref rr, .ref o, .ref g, .ref z, .int (nI nbs), .int (nI nwd)])), (rn, .inr (1, [.int (nI 2000), .ref a3, .int (nI (kn + 1))])), (a3, .inl (cI, rCap 2000 nn (kn + 1), .inl f3))]) (st' := [.int 1]) rfl rfl ?_
      have hc0 := cap_ok hnn (show kn + 1 ≤ 2000 by omega) h1n
      refine k_pop X dX4_feed_41 rfl ?_
      refine k_iinc (v := 16) (lv' := [(4, .int 16), (3, .ref rn), (0, .ref x0), (1, .int 1), (2, .int v)]) X dX4_feed_42 0 rfl (by decide) (by decide) rfl ?_
      refine k_goto (tgt := 24) X dX4_feed_45 (by decide) ?_
      refine k_iload X dX4_feed_24 0 rfl ?_
      refine k_if_lt (tgt := 48) (xi := (16 : Int)) X (by decide) dX4_feed_26 (by decide) (fun c_26 => ?_) (fun c_26 => ?_)
      · exact absurd c_26 (by decide)
      · refine k_aload_n X dX4_feed_29 rfl 1 rfl ?_
        refine k_iload_n X dX4_feed_30 rfl 4 rfl ?_
        refine k_iload X dX4_feed_31 0 rfl ?_
        refine k_iushr (v := (v.toUInt32 >>> (Int32.toUInt32 16 &&& Int32.toUInt32 31)).toInt32) X dX4_feed_33 rfl ?_
        refine k_sipush (v := 255) X dX4_feed_34 (by decide) ?_
        refine k_iand X dX4_feed_37 ?_
        refine k_callV (wc := [(rn, .inr (1, [.int (nI 2000), .ref a3, .int (nI (kn + 1))])), (a3, .inl (cI, (rCap 2000 nn (kn + 1)), .inl f3))]) (wr := [(x0, .inr (4, [.ref ro, .ref rn, .ref rt, .ref rr, .ref o, .ref g, .ref z, .int (nI nbs), .int (nI nwd)]))]) (As := [.int (((v.toUInt32 >>> (Int32.toUInt32 16 &&& Int32.toUInt32 31)).toInt32) &&& 255)]) (n := 1) (st := []) (q0 := 0) X (c_add l D cI cB rn a3 2000 (kn + 1) (rCap 2000 nn (kn + 1)) f3 (((v.toUInt32 >>> (Int32.toUInt32 16 &&& Int32.toUInt32 31)).toInt32) &&& 255) (hc0.1) (hc0.2.1) (by omega) (hc0.2.2.1) (by omega) (and255 _)) rfl rfl ml_X4_65 im_X1_add se_X1_add ini_X1 co_X1_add (by decide +kernel) rfl ⟨Nat.le_of_ble_eq_true rfl, Nat.le_of_ble_eq_true rfl⟩ (⟨by (try dsimp only); omega, by (try dsimp only); omega⟩) (Nat.le_of_ble_eq_true rfl) [1, 2] [0] rfl rfl rfl (by decide) (by decide) (by decide) rfl dX4_feed_38 (fun v_38 u_38 hu_38 => ?_)
        obtain ⟨a4, f4, rfl, rfl, p4, q4⟩ := hu_38
        refine k_to (ws' := [(x0, .inr (4, [.ref ro, .ref rn, .ref rt, .ref rr, .ref o, .ref g, .ref z, .int (nI nbs), .int (nI nwd)])), (rn, .inr (1, [.int (nI 2000), .ref a4, .int (nI ((kn + 1) + 1))])), (a4, .inl (cI, rCap 2000 (rCap 2000 nn (kn + 1)) ((kn + 1) + 1), .inl f4))]) (st' := [.int 1]) rfl rfl ?_
        have hc1 := cap_ok hc0.2.1 (show kn + 1 + 1 ≤ 2000 by omega) hc0.2.2.1
        refine k_pop X dX4_feed_41 rfl ?_
        refine k_iinc (v := 8) (lv' := [(4, .int 8), (3, .ref rn), (0, .ref x0), (1, .int 1), (2, .int v)]) X dX4_feed_42 0 rfl (by decide) (by decide) rfl ?_
        refine k_goto (tgt := 24) X dX4_feed_45 (by decide) ?_
        refine k_iload X dX4_feed_24 0 rfl ?_
        refine k_if_lt (tgt := 48) (xi := (8 : Int)) X (by decide) dX4_feed_26 (by decide) (fun c_26 => ?_) (fun c_26 => ?_)
        · exact absurd c_26 (by decide)
        · refine k_aload_n X dX4_feed_29 rfl 1 rfl ?_
          refine k_iload_n X dX4_feed_30 rfl 4 rfl ?_
          refine k_iload X dX4_feed_31 0 rfl ?_
          refine k_iushr (v := (v.toUInt32 >>> (Int32.toUInt32 8 &&& Int32.toUInt32 31)).toInt32) X dX4_feed_33 rfl ?_
          refine k_sipush (v := 255) X dX4_feed_34 (by decide) ?_
          refine k_iand X dX4_feed_37 ?_
          refine k_callV (wc := [(rn, .inr (1, [.int (nI 2000), .ref a4, .int (nI ((kn + 1) + 1))])), (a4, .inl (cI, (rCap 2000 (rCap 2000 nn (kn + 1)) ((kn + 1) + 1)), .inl f4))]) (wr := [(x0, .inr (4, [.ref ro, .ref rn, .ref rt, .ref rr, .ref o, .ref g, .ref z, .int (nI nbs), .int (nI nwd)]))]) (As := [.int (((v.toUInt32 >>> (Int32.toUInt32 8 &&& Int32.toUInt32 31)).toInt32) &&& 255)]) (n := 1) (st := []) (q0 := 0) X (c_add l D cI cB rn a4 2000 ((kn + 1) + 1) (rCap 2000 (rCap 2000 nn (kn + 1)) ((kn + 1) + 1)) f4 (((v.toUInt32 >>> (Int32.toUInt32 8 &&& Int32.toUInt32 31)).toInt32) &&& 255) (hc1.1) (hc1.2.1) (by omega) (hc1.2.2.1) (by omega) (and255 _)) rfl rfl ml_X4_65 im_X1_add se_X1_add ini_X1 co_X1_add (by decide +kernel) rfl ⟨Nat.le_of_ble_eq_true rfl, Nat.le_of_ble_eq_true rfl⟩ (⟨by (try dsimp only); omega, by (try dsimp only); omega⟩) (Nat.le_of_ble_eq_true rfl) [1, 2] [0] rfl rfl rfl (by decide) (by decide) (by decide) rfl dX4_feed_38 (fun v_38 u_38 hu_38 => ?_)
          obtain ⟨a5, f5, rfl, rfl, p5, q5⟩ := hu_38
          refine k_to (ws' := [(x0, .inr (4, [.ref ro, .ref rn, .ref rt, .ref rr, .ref o, .ref g, .ref z, .int (nI nbs), .int (nI nwd)])), (rn, .inr (1, [.int (nI 2000), .ref a5, .int (nI (((kn + 1) + 1) + 1))])), (a5, .inl (cI, rCap 2000 (rCap 2000 (rCap 2000 nn (kn + 1)) ((kn + 1) + 1)) (((kn + 1) + 1) + 1), .inl f5))]) (st' := [.int 1]) rfl rfl ?_
          have hc2 := cap_ok hc1.2.1 (show kn + 1 + 1 + 1 ≤ 2000 by omega) hc1.2.2.1
          refine k_pop X dX4_feed_41 rfl ?_
          refine k_iinc (v := 0) (lv' := [(4, .int 0), (3, .ref rn), (0, .ref x0), (1, .int 1), (2, .int v)]) X dX4_feed_42 0 rfl (by decide) (by decide) rfl ?_
          refine k_goto (tgt := 24) X dX4_feed_45 (by decide) ?_
          refine k_iload X dX4_feed_24 0 rfl ?_
          refine k_if_lt (tgt := 48) (xi := (0 : Int)) X (by decide) dX4_feed_26 (by decide) (fun c_26 => ?_) (fun c_26 => ?_)
          · exact absurd c_26 (by decide)
          · refine k_aload_n X dX4_feed_29 rfl 1 rfl ?_
            refine k_iload_n X dX4_feed_30 rfl 4 rfl ?_
            refine k_iload X dX4_feed_31 0 rfl ?_
            refine k_iushr (v := (v.toUInt32 >>> (Int32.toUInt32 0 &&& Int32.toUInt32 31)).toInt32) X dX4_feed_33 rfl ?_
            refine k_sipush (v := 255) X dX4_feed_34 (by decide) ?_
            refine k_iand X dX4_feed_37 ?_
            refine k_callV (wc := [(rn, .inr (1, [.int (nI 2000), .ref a5, .int (nI (((kn + 1) + 1) + 1))])), (a5, .inl (cI, (rCap 2000 (rCap 2000 (rCap 2000 nn (kn + 1)) ((kn + 1) + 1)) (((kn + 1) + 1) + 1)), .inl f5))]) (wr := [(x0, .inr (4, [.ref ro, .ref rn, .ref rt, .ref rr, .ref o, .ref g, .ref z, .int (nI nbs), .int (nI nwd)]))]) (As := [.int (((v.toUInt32 >>> (Int32.toUInt32 0 &&& Int32.toUInt32 31)).toInt32) &&& 255)]) (n := 1) (st := []) (q0 := 0) X (c_add l D cI cB rn a5 2000 (((kn + 1) + 1) + 1) (rCap 2000 (rCap 2000 (rCap 2000 nn (kn + 1)) ((kn + 1) + 1)) (((kn + 1) + 1) + 1)) f5 (((v.toUInt32 >>> (Int32.toUInt32 0 &&& Int32.toUInt32 31)).toInt32) &&& 255) (hc2.1) (hc2.2.1) (by omega) (hc2.2.2.1) (by omega) (and255 _)) rfl rfl ml_X4_65 im_X1_add se_X1_add ini_X1 co_X1_add (by decide +kernel) rfl ⟨Nat.le_of_ble_eq_true rfl, Nat.le_of_ble_eq_true rfl⟩ (⟨by (try dsimp only); omega, by (try dsimp only); omega⟩) (Nat.le_of_ble_eq_true rfl) [1, 2] [0] rfl rfl rfl (by decide) (by decide) (by decide) rfl dX4_feed_38 (fun v_38 u_38 hu_38 => ?_)
            obtain ⟨a6, f6, rfl, rfl, p6, q6⟩ := hu_38
            refine k_to (ws' := [(x0, .inr (4, [.ref ro, .ref rn, .ref rt, .ref rr, .ref o, .ref g, .ref z, .int (nI nbs), .int (nI nwd)])), (rn, .inr (1, [.int (nI 2000), .ref a6, .int (nI ((((kn + 1) + 1) + 1) + 1))])), (a6, .inl (cI, rCap 2000 (rCap 2000 (rCap 2000 (rCap 2000 nn (kn + 1)) ((kn + 1) + 1)) (((kn + 1) + 1) + 1)) ((((kn + 1) + 1) + 1) + 1), .inl f6))]) (st' := [.int 1]) rfl rfl ?_
            have hc3 := cap_ok hc2.2.1 (show kn + 1 + 1 + 1 + 1 ≤ 2000 by omega) hc2.2.2.1
            refine k_pop X dX4_feed_41 rfl ?_
            refine k_iinc (v := -8) (lv' := [(4, .int (-8)), (3, .ref rn), (0, .ref x0), (1, .int 1), (2, .int v)]) X dX4_feed_42 0 rfl (by decide) (by decide) rfl ?_
            refine k_goto (tgt := 24) X dX4_feed_45 (by decide) ?_
            refine k_iload X dX4_feed_24 0 rfl ?_
            refine k_if_lt (tgt := 48) (xi := (-8 : Int)) X (by decide) dX4_feed_26 (by decide) (fun c_26 => ?_) (fun c_26 => ?_)
            · refine k_aload_n X dX4_feed_48 rfl 1 rfl ?_
              refine k_callV (wc := [(rn, .inr (1, [.int (nI 2000), .ref a6, .int (nI ((((kn + 1) + 1) + 1) + 1))]))]) (wr := [(x0, .inr (4, [.ref ro, .ref rn, .ref rt, .ref rr, .ref o, .ref g, .ref z, .int (nI nbs), .int (nI nwd)])), (a6, .inl (cI, rCap 2000 (rCap 2000 (rCap 2000 (rCap 2000 nn (kn + 1)) ((kn + 1) + 1)) (((kn + 1) + 1) + 1)) ((((kn + 1) + 1) + 1) + 1), .inl f6))]) (As := []) (n := 0) (st := []) (q0 := 0) X (c_length l D cI cB rn a6 2000 ((((kn + 1) + 1) + 1) + 1) ) rfl rfl ml_X4_69 im_X1_length se_X1_length ini_X1 co_X1_length (by decide +kernel) rfl ⟨Nat.le_of_ble_eq_true rfl, Nat.le_of_ble_eq_true rfl⟩ (⟨by (try dsimp only); omega, by (try dsimp only); omega⟩) (Nat.le_of_ble_eq_true rfl) [1] [0, 2] rfl rfl rfl (by decide) (by decide) (by decide) rfl dX4_feed_49 (fun v_49 u_49 hu_49 => ?_)
              obtain ⟨rfl, rfl⟩ := hu_49
              refine k_to (ws' := [(x0, .inr (4, [.ref ro, .ref rn, .ref rt, .ref rr, .ref o, .ref g, .ref z, .int (nI nbs), .int (nI nwd)])), (a6, .inl (cI, rCap 2000 (rCap 2000 (rCap 2000 (rCap 2000 nn (kn + 1)) ((kn + 1) + 1)) (((kn + 1) + 1) + 1)) ((((kn + 1) + 1) + 1) + 1), .inl f6)), (rn, .inr (1, [.int (nI 2000), .ref a6, .int (nI ((((kn + 1) + 1) + 1) + 1))]))]) (st' := [.int (nI ((((kn + 1) + 1) + 1) + 1))]) rfl rfl ?_
              exact k_iret (u := [(x0, .inr (4, [.ref ro, .ref rn, .ref rt, .ref rr, .ref o, .ref g, .ref z, .int (nI nbs), .int (nI nwd)])), (rn, .inr (1, [.int (nI 2000), .ref a6, .int (nI ((((kn + 1) + 1) + 1) + 1))])), (a6, .inl (cI, rCap 2000 (rCap 2000 (rCap 2000 (rCap 2000 nn (kn + 1)) ((kn + 1) + 1)) (((kn + 1) + 1) + 1)) ((((kn + 1) + 1) + 1) + 1), .inl f6))]) X hr [0, 2, 1] (by decide) rfl rfl (⟨a6, f6, rfl, rfl, fun j hj => by rw [q6 j (by omega), q5 j (by omega), q4 j (by omega), q3 j hj], fun j hj => by
                rcases (show j = 0 ∨ j = 1 ∨ j = 2 ∨ j = 3 by omega) with rfl | rfl | rfl | rfl
                · rw [show kn + 0 = kn from rfl, q6 _ (by omega), q5 _ (by omega), q4 _ (by omega), p3]; rfl
                · rw [q6 _ (by omega), q5 _ (by omega), p4]; rfl
                · rw [q6 _ (by omega), show kn + 2 = kn + 1 + 1 from rfl, p5]; rfl
                · rw [show kn + 3 = kn + 1 + 1 + 1 from rfl, p6]; rfl⟩) (by (try dsimp only); omega) (by (try dsimp only); omega) dX4_feed_52
            · exact absurd c_26 (by decide)
  · exact absurd c_15 (by omega)
set_option maxHeartbeats 4000000 in
set_option maxRecDepth 100000 in
theorem c_feed_1f (l : Launch) (D : va_G) (cI cB : ClassId) (x0 : Nat) (ro : Nat) (rn : Nat) (rt : Nat) (rr : Nat) (o : Nat) (g : Nat) (z : Nat) (nbs : Nat) (nwd : Nat) (an : Nat) (kn : Nat) (v : Int32) (hk : kn ≤ 2000) (h4 : ¬ kn + 4 ≤ 2000) : kC l yX4_feed cX4_feed 5 (some .int) 2 42 (0) (0) D cI cB [.ref x0, .int 1, .int v] [(x0, .inr (4, [.ref ro, .ref rn, .ref rt, .ref rr, .ref o, .ref g, .ref z, .int (nI nbs), .int (nI nwd)])), (rn, .inr (1, [.int (nI 2000), .ref an, .int (nI kn)]))] (fun (vV : Option Value) (uU : va_W) => vV = some (.int (-1)) ∧ uU = [(x0, .inr (4, [.ref ro, .ref rn, .ref rt, .ref rr, .ref o, .ref g, .ref z, .int (nI nbs), .int (nI nwd)])), (rn, .inr (1, [.int (nI 2000), .ref an, .int (nI kn)]))]) := by
  refine k_entry (lv0 := [(0, .ref x0), (1, .int 1), (2, .int v)]) (by decide) (Nat.le_of_ble_eq_true rfl) rfl ?_
  intro zp ze zs zm zb zt zc zA X hr hin
  refine k_aload_n X dX4_feed_0 rfl 0 rfl ?_
  refine k_iload_n X dX4_feed_1 rfl 1 rfl ?_
  refine k_callV (wc := [(x0, .inr (4, [.ref ro, .ref rn, .ref rt, .ref rr, .ref o, .ref g, .ref z, .int (nI nbs), .int (nI nwd)]))]) (wr := [(rn, .inr (1, [.int (nI 2000), .ref an, .int (nI kn)]))]) (As := [.int 1]) (n := 1) (st := []) (q0 := 0) X (c_fileOf_1 l D cI cB x0 ro rn rt rr o g z nbs nwd ) rfl rfl ml_X4_57 im_X4_fileOf se_X4_fileOf ini_X4 co_X4_fileOf (by decide +kernel) rfl ⟨Nat.le_of_ble_eq_true rfl, Nat.le_of_ble_eq_true rfl⟩ (⟨by (try dsimp only); omega, by (try dsimp only); omega⟩) (Nat.le_of_ble_eq_true rfl) [0] [1] rfl rfl rfl (by decide) (by decide) (by decide) rfl dX4_feed_2 (fun v_2 u_2 hu_2 => ?_)
  obtain ⟨rfl, rfl⟩ := hu_2
  refine k_to (ws' := [(rn, .inr (1, [.int (nI 2000), .ref an, .int (nI kn)])), (x0, .inr (4, [.ref ro, .ref rn, .ref rt, .ref rr, .ref o, .ref g, .ref z, .int (nI nbs), .int (nI nwd)]))]) (st' := [.ref rn]) rfl rfl ?_
  refine k_astore_n (lv' := [(3, .ref rn), (0, .ref x0), (1, .int 1), (2, .int v)]) X dX4_feed_5 rfl (by decide) rfl ?_
  refine k_aload_n X dX4_feed_6 rfl 0 rfl ?_
  refine k_ifnull X dX4_feed_7 ?_
  refine k_aload_n X dX4_feed_10 rfl 0 rfl ?_
  refine k_callV (wc := [(rn, .inr (1, [.int (nI 2000), .ref an, .int (nI kn)]))]) (wr := [(x0, .inr (4, [.ref ro, .ref rn, .ref rt, .ref rr, .ref o, .ref g, .ref z, .int (nI nbs), .int (nI nwd)]))]) (As := []) (n := 0) (st := []) (q0 := 0) X (c_room l D cI cB rn an 2000 kn (by omega) (by omega)) rfl rfl ml_X4_61 im_X1_room se_X1_room ini_X1 co_X1_room (by decide +kernel) rfl ⟨Nat.le_of_ble_eq_true rfl, Nat.le_of_ble_eq_true rfl⟩ (⟨by (try dsimp only); omega, by (try dsimp only); omega⟩) (Nat.le_of_ble_eq_true rfl) [0] [1] rfl rfl rfl (by decide) (by decide) (by decide) rfl dX4_feed_11 (fun v_11 u_11 hu_11 => ?_)
  obtain ⟨rfl, rfl⟩ := hu_11
  refine k_to (ws' := [(x0, .inr (4, [.ref ro, .ref rn, .ref rt, .ref rr, .ref o, .ref g, .ref z, .int (nI nbs), .int (nI nwd)])), (rn, .inr (1, [.int (nI 2000), .ref an, .int (nI kn)]))]) (st' := [.int (nI (2000 - kn))]) rfl rfl ?_
  refine k_iconst (v := 4) X dX4_feed_14 (by decide) ?_
  refine k_icmp_ge (tgt := 20) (xi := (((2000 - kn) : Nat) : Int)) (yi := (4 : Int)) X (nI_toInt (by omega)) (by decide) dX4_feed_15 (by decide) (fun c_15 => ?_) (fun c_15 => ?_)
  · exact absurd c_15 (by omega)
  · refine k_iconst (v := -1) X dX4_feed_18 (by decide) ?_
    exact k_iret (u := [(x0, .inr (4, [.ref ro, .ref rn, .ref rt, .ref rr, .ref o, .ref g, .ref z, .int (nI nbs), .int (nI nwd)])), (rn, .inr (1, [.int (nI 2000), .ref an, .int (nI kn)]))]) X hr [0, 1] (by decide) rfl rfl (⟨rfl, rfl⟩) (by (try dsimp only); omega) (by (try dsimp only); omega) dX4_feed_19
set_option maxHeartbeats 4000000 in
set_option maxRecDepth 100000 in
theorem c_feed_f (l : Launch) (D : va_G) (cI cB : ClassId) (x0 : Nat) (ro : Nat) (rn : Nat) (rt : Nat) (rr : Nat) (o : Nat) (g : Nat) (z : Nat) (nbs : Nat) (nwd : Nat) (wh : Int32) (v : Int32) (hwh : ¬ wh.toInt = 0 ∧ ¬ wh.toInt = 1) : kC l yX4_feed cX4_feed 5 (some .int) 1 21 (0) (0) D cI cB [.ref x0, .int wh, .int v] [(x0, .inr (4, [.ref ro, .ref rn, .ref rt, .ref rr, .ref o, .ref g, .ref z, .int (nI nbs), .int (nI nwd)]))] (fun (vV : Option Value) (uU : va_W) => vV = some (.int (-1)) ∧ uU = [(x0, .inr (4, [.ref ro, .ref rn, .ref rt, .ref rr, .ref o, .ref g, .ref z, .int (nI nbs), .int (nI nwd)]))]) := by
  refine k_entry (lv0 := [(0, .ref x0), (1, .int wh), (2, .int v)]) (by decide) (Nat.le_of_ble_eq_true rfl) rfl ?_
  intro zp ze zs zm zb zt zc zA X hr hin
  refine k_aload_n X dX4_feed_0 rfl 0 rfl ?_
  refine k_iload_n X dX4_feed_1 rfl 1 rfl ?_
  refine k_callV (wc := [(x0, .inr (4, [.ref ro, .ref rn, .ref rt, .ref rr, .ref o, .ref g, .ref z, .int (nI nbs), .int (nI nwd)]))]) (wr := []) (As := [.int wh]) (n := 1) (st := []) (q0 := 0) X (c_fileOf_f l D cI cB x0 ro rn rt rr o g z nbs nwd wh (hwh)) rfl rfl ml_X4_57 im_X4_fileOf se_X4_fileOf ini_X4 co_X4_fileOf (by decide +kernel) rfl ⟨Nat.le_of_ble_eq_true rfl, Nat.le_of_ble_eq_true rfl⟩ (⟨by (try dsimp only); omega, by (try dsimp only); omega⟩) (Nat.le_of_ble_eq_true rfl) [0] [] rfl rfl rfl (by decide) (by decide) (by decide) rfl dX4_feed_2 (fun v_2 u_2 hu_2 => ?_)
  obtain ⟨rfl, rfl⟩ := hu_2
  refine k_to (ws' := [(x0, .inr (4, [.ref ro, .ref rn, .ref rt, .ref rr, .ref o, .ref g, .ref z, .int (nI nbs), .int (nI nwd)]))]) (st' := [.null]) rfl rfl ?_
  refine k_astore_nN (lv' := [(3, .null), (0, .ref x0), (1, .int wh), (2, .int v)]) X dX4_feed_5 rfl (by decide) rfl ?_
  refine k_aload_nN X dX4_feed_6 rfl 0 rfl ?_
  refine k_ifnullN (tgt := 18) X dX4_feed_7 (by decide) ?_
  refine k_iconst (v := -1) X dX4_feed_18 (by decide) ?_
  exact k_iret (u := [(x0, .inr (4, [.ref ro, .ref rn, .ref rt, .ref rr, .ref o, .ref g, .ref z, .int (nI nbs), .int (nI nwd)]))]) X hr [0] (by decide) rfl rfl (⟨rfl, rfl⟩) (by (try dsimp only); omega) (by (try dsimp only); omega) dX4_feed_19
set_option maxHeartbeats 4000000 in
set_option maxRecDepth 100000 in
theorem c_cut_0 (l : Launch) (D : va_G) (cI cB : ClassId) (x0 : Nat) (ro : Nat) (rn : Nat) (rt : Nat) (rr : Nat) (o : Nat) (g : Nat) (z : Nat) (nbs : Nat) (nwd : Nat) (ao : Nat) (ko : Nat) (x : Int32) (hk : ko ≤ 2000) : kC l yX4_cut cX4_cut 4 (some .boolean) 2 42 (0) (0) D cI cB [.ref x0, .int 0, .int x] [(x0, .inr (4, [.ref ro, .ref rn, .ref rt, .ref rr, .ref o, .ref g, .ref z, .int (nI nbs), .int (nI nwd)])), (ro, .inr (1, [.int (nI 2000), .ref ao, .int (nI ko)]))] (fun (vV : Option Value) (uU : va_W) => vV = some (.int (b2i (decide (0 ≤ x.toInt ∧ x.toInt ≤ ko)))) ∧ uU = [(x0, .inr (4, [.ref ro, .ref rn, .ref rt, .ref rr, .ref o, .ref g, .ref z, .int (nI nbs), .int (nI nwd)])), (ro, .inr (1, [.int (nI 2000), .ref ao, .int (nI (if 0 ≤ x.toInt ∧ x.toInt ≤ ko then x.toNatClampNeg else ko))]))]) := by
  refine k_entry (lv0 := [(0, .ref x0), (1, .int 0), (2, .int x)]) (by decide) (Nat.le_of_ble_eq_true rfl) rfl ?_
  intro zp ze zs zm zb zt zc zA X hr hin
  refine k_aload_n X dX4_cut_0 rfl 0 rfl ?_
  refine k_iload_n X dX4_cut_1 rfl 1 rfl ?_
  refine k_callV (wc := [(x0, .inr (4, [.ref ro, .ref rn, .ref rt, .ref rr, .ref o, .ref g, .ref z, .int (nI nbs), .int (nI nwd)]))]) (wr := [(ro, .inr (1, [.int (nI 2000), .ref ao, .int (nI ko)]))]) (As := [.int 0]) (n := 1) (st := []) (q0 := 0) X (c_fileOf_0 l D cI cB x0 ro rn rt rr o g z nbs nwd ) rfl rfl ml_X4_57 im_X4_fileOf se_X4_fileOf ini_X4 co_X4_fileOf (by decide +kernel) rfl ⟨Nat.le_of_ble_eq_true rfl, Nat.le_of_ble_eq_true rfl⟩ (⟨by (try dsimp only); omega, by (try dsimp only); omega⟩) (Nat.le_of_ble_eq_true rfl) [0] [1] rfl rfl rfl (by decide) (by decide) (by decide) rfl dX4_cut_2 (fun v_2 u_2 hu_2 => ?_)
  obtain ⟨rfl, rfl⟩ := hu_2
  refine k_to (ws' := [(ro, .inr (1, [.int (nI 2000), .ref ao, .int (nI ko)])), (x0, .inr (4, [.ref ro, .ref rn, .ref rt, .ref rr, .ref o, .ref g, .ref z, .int (nI nbs), .int (nI nwd)]))]) (st' := [.ref ro]) rfl rfl ?_
  refine k_astore_n (lv' := [(3, .ref ro), (0, .ref x0), (1, .int 0), (2, .int x)]) X dX4_cut_5 rfl (by decide) rfl ?_
  refine k_aload_n X dX4_cut_6 rfl 0 rfl ?_
  refine k_ifnull X dX4_cut_7 ?_
  refine k_aload_n X dX4_cut_10 rfl 0 rfl ?_
  refine k_iload_n X dX4_cut_11 rfl 3 rfl ?_
  refine k_callV (wc := [(ro, .inr (1, [.int (nI 2000), .ref ao, .int (nI ko)]))]) (wr := [(x0, .inr (4, [.ref ro, .ref rn, .ref rt, .ref rr, .ref o, .ref g, .ref z, .int (nI nbs), .int (nI nwd)]))]) (As := [.int x]) (n := 1) (st := []) (q0 := 0) X (c_shorten l D cI cB ro ao 2000 ko x (by omega)) rfl rfl ml_X4_72 im_X1_shorten se_X1_shorten ini_X1 co_X1_shorten (by decide +kernel) rfl ⟨Nat.le_of_ble_eq_true rfl, Nat.le_of_ble_eq_true rfl⟩ (⟨by (try dsimp only); omega, by (try dsimp only); omega⟩) (Nat.le_of_ble_eq_true rfl) [0] [1] rfl rfl rfl (by decide) (by decide) (by decide) rfl dX4_cut_12 (fun v_12 u_12 hu_12 => ?_)
  obtain ⟨rfl, rfl⟩ := hu_12
  refine k_to (ws' := [(x0, .inr (4, [.ref ro, .ref rn, .ref rt, .ref rr, .ref o, .ref g, .ref z, .int (nI nbs), .int (nI nwd)])), (ro, .inr (1, [.int (nI 2000), .ref ao, .int (nI (if 0 ≤ x.toInt ∧ x.toInt ≤ ko then x.toNatClampNeg else ko))]))]) (st' := [.int (b2i (decide (0 ≤ x.toInt ∧ x.toInt ≤ ko)))]) rfl rfl ?_
  by_cases hx : 0 ≤ x.toInt ∧ x.toInt ≤ ko
  · refine k_as (y := 1) (b2i_t hx) ?_
    refine k_if_eq (tgt := 22) (xi := (1 : Int)) X (by decide) dX4_cut_15 (by decide) (fun c_15 => ?_) (fun c_15 => ?_)
    · exact absurd c_15 (by decide)
    · refine k_iconst (v := 1) X dX4_cut_18 (by decide) ?_
      refine k_goto (tgt := 23) X dX4_cut_19 (by decide) ?_
      exact k_zret (u := [(x0, .inr (4, [.ref ro, .ref rn, .ref rt, .ref rr, .ref o, .ref g, .ref z, .int (nI nbs), .int (nI nwd)])), (ro, .inr (1, [.int (nI 2000), .ref ao, .int (nI (if 0 ≤ x.toInt ∧ x.toInt ≤ ko then x.toNatClampNeg else ko))]))]) X (by first | rfl | exact b2i_nar _ | decide) hr [0, 1] (by decide) rfl rfl (⟨by rw [b2i_t hx], rfl⟩) (by (try dsimp only); omega) (by (try dsimp only); omega) dX4_cut_23
  · refine k_as (y := 0) (b2i_f hx) ?_
    refine k_if_eq (tgt := 22) (xi := (0 : Int)) X (by decide) dX4_cut_15 (by decide) (fun c_15 => ?_) (fun c_15 => ?_)
    · refine k_iconst (v := 0) X dX4_cut_22 (by decide) ?_
      exact k_zret (u := [(x0, .inr (4, [.ref ro, .ref rn, .ref rt, .ref rr, .ref o, .ref g, .ref z, .int (nI nbs), .int (nI nwd)])), (ro, .inr (1, [.int (nI 2000), .ref ao, .int (nI (if 0 ≤ x.toInt ∧ x.toInt ≤ ko then x.toNatClampNeg else ko))]))]) X (by first | rfl | exact b2i_nar _ | decide) hr [0, 1] (by decide) rfl rfl (⟨by rw [b2i_f hx], rfl⟩) (by (try dsimp only); omega) (by (try dsimp only); omega) dX4_cut_23
    · exact absurd c_15 (by decide)
set_option maxHeartbeats 4000000 in
set_option maxRecDepth 100000 in
theorem c_put_0 (l : Launch) (D : va_G) (cI cB : ClassId) (x0 : Nat) (ro : Nat) (rn : Nat) (rt : Nat) (rr : Nat) (o : Nat) (g : Nat) (z : Nat) (nbs : Nat) (nwd : Nat) (ao : Nat) (no : Nat) (fo : Nat → Int32) (ko : Nat) (x : Int32) (b : Int32) (hko : ko ≤ no) (hno : no ≤ 2000) (h1o : 1 ≤ no) : kC l yX4_put cX4_put 5 (some .boolean) 2 42 (0) (0) D cI cB [.ref x0, .int 0, .int x, .int b] [(x0, .inr (4, [.ref ro, .ref rn, .ref rt, .ref rr, .ref o, .ref g, .ref z, .int (nI nbs), .int (nI nwd)])), (ro, .inr (1, [.int (nI 2000), .ref ao, .int (nI ko)])), (ao, .inl (cI, no, .inl fo))] (fun (vV : Option Value) (uU : va_W) => vV = some (.int (b2i (decide (rIn x ko ∧ rByte b)))) ∧ uU = [(x0, .inr (4, [.ref ro, .ref rn, .ref rt, .ref rr, .ref o, .ref g, .ref z, .int (nI nbs), .int (nI nwd)])), (ro, .inr (1, [.int (nI 2000), .ref ao, .int (nI ko)])), (ao, .inl (cI, no, .inl (rSet fo ko x b)))]) := by
  refine k_entry (lv0 := [(0, .ref x0), (1, .int 0), (2, .int x), (3, .int b)]) (by decide) (Nat.le_of_ble_eq_true rfl) rfl ?_
  intro zp ze zs zm zb zt zc zA X hr hin
  refine k_aload_n X dX4_put_0 rfl 0 rfl ?_
  refine k_iload_n X dX4_put_1 rfl 1 rfl ?_
  refine k_callV (wc := [(x0, .inr (4, [.ref ro, .ref rn, .ref rt, .ref rr, .ref o, .ref g, .ref z, .int (nI nbs), .int (nI nwd)]))]) (wr := [(ro, .inr (1, [.int (nI 2000), .ref ao, .int (nI ko)])), (ao, .inl (cI, no, .inl fo))]) (As := [.int 0]) (n := 1) (st := []) (q0 := 0) X (c_fileOf_0 l D cI cB x0 ro rn rt rr o g z nbs nwd ) rfl rfl ml_X4_57 im_X4_fileOf se_X4_fileOf ini_X4 co_X4_fileOf (by decide +kernel) rfl ⟨Nat.le_of_ble_eq_true rfl, Nat.le_of_ble_eq_true rfl⟩ (⟨by (try dsimp only); omega, by (try dsimp only); omega⟩) (Nat.le_of_ble_eq_true rfl) [0] [1, 2] rfl rfl rfl (by decide) (by decide) (by decide) rfl dX4_put_2 (fun v_2 u_2 hu_2 => ?_)
  obtain ⟨rfl, rfl⟩ := hu_2
  refine k_to (ws' := [(ro, .inr (1, [.int (nI 2000), .ref ao, .int (nI ko)])), (ao, .inl (cI, no, .inl fo)), (x0, .inr (4, [.ref ro, .ref rn, .ref rt, .ref rr, .ref o, .ref g, .ref z, .int (nI nbs), .int (nI nwd)]))]) (st' := [.ref ro]) rfl rfl ?_
  refine k_astore (lv' := [(4, .ref ro), (0, .ref x0), (1, .int 0), (2, .int x), (3, .int b)]) X dX4_put_5 (by decide) rfl ?_
  refine k_aload X dX4_put_7 0 rfl ?_
  refine k_ifnull X dX4_put_9 ?_
  refine k_aload X dX4_put_12 0 rfl ?_
  refine k_iload_n X dX4_put_14 rfl 3 rfl ?_
  refine k_iload_n X dX4_put_15 rfl 4 rfl ?_
  refine k_callV (wc := [(ro, .inr (1, [.int (nI 2000), .ref ao, .int (nI ko)])), (ao, .inl (cI, no, .inl fo))]) (wr := [(x0, .inr (4, [.ref ro, .ref rn, .ref rt, .ref rr, .ref o, .ref g, .ref z, .int (nI nbs), .int (nI nwd)]))]) (As := [.int x, .int b]) (n := 2) (st := []) (q0 := 0) X (c_set l D cI cB ro ao 2000 ko no fo x b (hko) (hno) (by omega)) rfl rfl ml_X4_75 im_X1_set se_X1_set ini_X1 co_X1_set (by decide +kernel) rfl ⟨Nat.le_of_ble_eq_true rfl, Nat.le_of_ble_eq_true rfl⟩ (⟨by (try dsimp only); omega, by (try dsimp only); omega⟩) (Nat.le_of_ble_eq_true rfl) [0, 1] [2] rfl rfl rfl (by decide) (by decide) (by decide) rfl dX4_put_16 (fun v_16 u_16 hu_16 => ?_)
  obtain ⟨rfl, rfl⟩ := hu_16
  refine k_to (ws' := [(x0, .inr (4, [.ref ro, .ref rn, .ref rt, .ref rr, .ref o, .ref g, .ref z, .int (nI nbs), .int (nI nwd)])), (ro, .inr (1, [.int (nI 2000), .ref ao, .int (nI ko)])), (ao, .inl (cI, no, .inl (rSet fo ko x b)))]) (st' := [.int (b2i (decide (rIn x ko ∧ rByte b)))]) rfl rfl ?_
  by_cases hx : rIn x ko ∧ rByte b
  · refine k_as (y := 1) (b2i_t hx) ?_
    refine k_if_eq (tgt := 26) (xi := (1 : Int)) X (by decide) dX4_put_19 (by decide) (fun c_19 => ?_) (fun c_19 => ?_)
    · exact absurd c_19 (by decide)
    · refine k_iconst (v := 1) X dX4_put_22 (by decide) ?_
      refine k_goto (tgt := 27) X dX4_put_23 (by decide) ?_
      exact k_zret (u := [(x0, .inr (4, [.ref ro, .ref rn, .ref rt, .ref rr, .ref o, .ref g, .ref z, .int (nI nbs), .int (nI nwd)])), (ro, .inr (1, [.int (nI 2000), .ref ao, .int (nI ko)])), (ao, .inl (cI, no, .inl (rSet fo ko x b)))]) X (by first | rfl | exact b2i_nar _ | decide) hr [0, 1, 2] (by decide) rfl rfl (⟨by rw [b2i_t hx], rfl⟩) (by (try dsimp only); omega) (by (try dsimp only); omega) dX4_put_27
  · refine k_as (y := 0) (b2i_f hx) ?_
    refine k_if_eq (tgt := 26) (xi := (0 : Int)) X (by decide) dX4_put_19 (by decide) (fun c_19 => ?_) (fun c_19 => ?_)
    · refine k_iconst (v := 0) X dX4_put_26 (by decide) ?_
      exact k_zret (u := [(x0, .inr (4, [.ref ro, .ref rn, .ref rt, .ref rr, .ref o, .ref g, .ref z, .int (nI nbs), .int (nI nwd)])), (ro, .inr (1, [.int (nI 2000), .ref ao, .int (nI ko)])), (ao, .inl (cI, no, .inl (rSet fo ko x b)))]) X (by first | rfl | exact b2i_nar _ | decide) hr [0, 1, 2] (by decide) rfl rfl (⟨by rw [b2i_f hx], rfl⟩) (by (try dsimp only); omega) (by (try dsimp only); omega) dX4_put_27
    · exact absurd c_19 (by decide)
set_option maxHeartbeats 4000000 in
set_option maxRecDepth 100000 in
theorem c_cut_1 (l : Launch) (D : va_G) (cI cB : ClassId) (x0 : Nat) (ro : Nat) (rn : Nat) (rt : Nat) (rr : Nat) (o : Nat) (g : Nat) (z : Nat) (nbs : Nat) (nwd : Nat) (an : Nat) (kn : Nat) (x : Int32) (hk : kn ≤ 2000) : kC l yX4_cut cX4_cut 4 (some .boolean) 2 42 (0) (0) D cI cB [.ref x0, .int 1, .int x] [(x0, .inr (4, [.ref ro, .ref rn, .ref rt, .ref rr, .ref o, .ref g, .ref z, .int (nI nbs), .int (nI nwd)])), (rn, .inr (1, [.int (nI 2000), .ref an, .int (nI kn)]))] (fun (vV : Option Value) (uU : va_W) => vV = some (.int (b2i (decide (0 ≤ x.toInt ∧ x.toInt ≤ kn)))) ∧ uU = [(x0, .inr (4, [.ref ro, .ref rn, .ref rt, .ref rr, .ref o, .ref g, .ref z, .int (nI nbs), .int (nI nwd)])), (rn, .inr (1, [.int (nI 2000), .ref an, .int (nI (if 0 ≤ x.toInt ∧ x.toInt ≤ kn then x.toNatClampNeg else kn))]))]) := by
  refine k_entry (lv0 := [(0, .ref x0), (1, .int 1), (2, .int x)]) (by decide) (Nat.le_of_ble_eq_true rfl) rfl ?_
  intro zp ze zs zm zb zt zc zA X hr hin
  refine k_aload_n X dX4_cut_0 rfl 0 rfl ?_
  refine k_iload_n X dX4_cut_1 rfl 1 rfl ?_
  refine k_callV (wc := [(x0, .inr (4, [.ref ro, .ref rn, .ref rt, .ref rr, .ref o, .ref g, .ref z, .int (nI nbs), .int (nI nwd)]))]) (wr := [(rn, .inr (1, [.int (nI 2000), .ref an, .int (nI kn)]))]) (As := [.int 1]) (n := 1) (st := []) (q0 := 0) X (c_fileOf_1 l D cI cB x0 ro rn rt rr o g z nbs nwd ) rfl rfl ml_X4_57 im_X4_fileOf se_X4_fileOf ini_X4 co_X4_fileOf (by decide +kernel) rfl ⟨Nat.le_of_ble_eq_true rfl, Nat.le_of_ble_eq_true rfl⟩ (⟨by (try dsimp only); omega, by (try dsimp only); omega⟩) (Nat.le_of_ble_eq_true rfl) [0] [1] rfl rfl rfl (by decide) (by decide) (by decide) rfl dX4_cut_2 (fun v_2 u_2 hu_2 => ?_)
  obtain ⟨rfl, rfl⟩ := hu_2
  refine k_to (ws' := [(rn, .inr (1, [.int (nI 2000), .ref an, .int (nI kn)])), (x0, .inr (4, [.ref ro, .ref rn, .ref rt, .ref rr, .ref o, .ref g, .ref z, .int (nI nbs), .int (nI nwd)]))]) (st' := [.ref rn]) rfl rfl ?_
  refine k_astore_n (lv' := [(3, .ref rn), (0, .ref x0), (1, .int 1), (2, .int x)]) X dX4_cut_5 rfl (by decide) rfl ?_
  refine k_aload_n X dX4_cut_6 rfl 0 rfl ?_
  refine k_ifnull X dX4_cut_7 ?_
  refine k_aload_n X dX4_cut_10 rfl 0 rfl ?_
  refine k_iload_n X dX4_cut_11 rfl 3 rfl ?_
  refine k_callV (wc := [(rn, .inr (1, [.int (nI 2000), .ref an, .int (nI kn)]))]) (wr := [(x0, .inr (4, [.ref ro, .ref rn, .ref rt, .ref rr, .ref o, .ref g, .ref z, .int (nI nbs), .int (nI nwd)]))]) (As := [.int x]) (n := 1) (st := []) (q0 := 0) X (c_shorten l D cI cB rn an 2000 kn x (by omega)) rfl rfl ml_X4_72 im_X1_shorten se_X1_shorten ini_X1 co_X1_shorten (by decide +kernel) rfl ⟨Nat.le_of_ble_eq_true rfl, Nat.le_of_ble_eq_true rfl⟩ (⟨by (try dsimp only); omega, by (try dsimp only); omega⟩) (Nat.le_of_ble_eq_true rfl) [0] [1] rfl rfl rfl (by decide) (by decide) (by decide) rfl dX4_cut_12 (fun v_12 u_12 hu_12 => ?_)
  obtain ⟨rfl, rfl⟩ := hu_12
  refine k_to (ws' := [(x0, .inr (4, [.ref ro, .ref rn, .ref rt, .ref rr, .ref o, .ref g, .ref z, .int (nI nbs), .int (nI nwd)])), (rn, .inr (1, [.int (nI 2000), .ref an, .int (nI (if 0 ≤ x.toInt ∧ x.toInt ≤ kn then x.toNatClampNeg else kn))]))]) (st' := [.int (b2i (decide (0 ≤ x.toInt ∧ x.toInt ≤ kn)))]) rfl rfl ?_
  by_cases hx : 0 ≤ x.toInt ∧ x.toInt ≤ kn
  · refine k_as (y := 1) (b2i_t hx) ?_
    refine k_if_eq (tgt := 22) (xi := (1 : Int)) X (by decide) dX4_cut_15 (by decide) (fun c_15 => ?_) (fun c_15 => ?_)
    · exact absurd c_15 (by decide)
    · refine k_iconst (v := 1) X dX4_cut_18 (by decide) ?_
      refine k_goto (tgt := 23) X dX4_cut_19 (by decide) ?_
      exact k_zret (u := [(x0, .inr (4, [.ref ro, .ref rn, .ref rt, .ref rr, .ref o, .ref g, .ref z, .int (nI nbs), .int (nI nwd)])), (rn, .inr (1, [.int (nI 2000), .ref an, .int (nI (if 0 ≤ x.toInt ∧ x.toInt ≤ kn then x.toNatClampNeg else kn))]))]) X (by first | rfl | exact b2i_nar _ | decide) hr [0, 1] (by decide) rfl rfl (⟨by rw [b2i_t hx], rfl⟩) (by (try dsimp only); omega) (by (try dsimp only); omega) dX4_cut_23
  · refine k_as (y := 0) (b2i_f hx) ?_
    refine k_if_eq (tgt := 22) (xi := (0 : Int)) X (by decide) dX4_cut_15 (by decide) (fun c_15 => ?_) (fun c_15 => ?_)
    · refine k_iconst (v := 0) X dX4_cut_22 (by decide) ?_
      exact k_zret (u := [(x0, .inr (4, [.ref ro, .ref rn, .ref rt, .ref rr, .ref o, .ref g, .ref z, .int (nI nbs), .int (nI nwd)])), (rn, .inr (1, [.int (nI 2000), .ref an, .int (nI (if 0 ≤ x.toInt ∧ x.toInt ≤ kn then x.toNatClampNeg else kn))]))]) X (by first | rfl | exact b2i_nar _ | decide) hr [0, 1] (by decide) rfl rfl (⟨by rw [b2i_f hx], rfl⟩) (by (try dsimp only); omega) (by (try dsimp only); omega) dX4_cut_23
    · exact absurd c_15 (by decide)
set_option maxHeartbeats 4000000 in
set_option maxRecDepth 100000 in
theorem c_put_1 (l : Launch) (D : va_G) (cI cB : ClassId) (x0 : Nat) (ro : Nat) (rn : Nat) (rt : Nat) (rr : Nat) (o : Nat) (g : Nat) (z : Nat) (nbs : Nat) (nwd : Nat) (an : Nat) (nn : Nat) (fw : Nat → Int32) (kn : Nat) (x : Int32) (b : Int32) (hkn : kn ≤ nn) (hnn : nn ≤ 2000) (h1n : 1 ≤ nn) : kC l yX4_put cX4_put 5 (some .boolean) 2 42 (0) (0) D cI cB [.ref x0, .int 1, .int x, .int b] [(x0, .inr (4, [.ref ro, .ref rn, .ref rt, .ref rr, .ref o, .ref g, .ref z, .int (nI nbs), .int (nI nwd)])), (rn, .inr (1, [.int (nI 2000), .ref an, .int (nI kn)])), (an, .inl (cI, nn, .inl fw))] (fun (vV : Option Value) (uU : va_W) => vV = some (.int (b2i (decide (rIn x kn ∧ rByte b)))) ∧ uU = [(x0, .inr (4, [.ref ro, .ref rn, .ref rt, .ref rr, .ref o, .ref g, .ref z, .int (nI nbs), .int (nI nwd)])), (rn, .inr (1, [.int (nI 2000), .ref an, .int (nI kn)])), (an, .inl (cI, nn, .inl (rSet fw kn x b)))]) := by
  refine k_entry (lv0 := [(0, .ref x0), (1, .int 1), (2, .int x), (3, .int b)]) (by decide) (Nat.le_of_ble_eq_true rfl) rfl ?_
  intro zp ze zs zm zb zt zc zA X hr hin
  refine k_aload_n X dX4_put_0 rfl 0 rfl ?_
  refine k_iload_n X dX4_put_1 rfl 1 rfl ?_
  refine k_callV (wc := [(x0, .inr (4, [.ref ro, .ref rn, .ref rt, .ref rr, .ref o, .ref g, .ref z, .int (nI nbs), .int (nI nwd)]))]) (wr := [(rn, .inr (1, [.int (nI 2000), .ref an, .int (nI kn)])), (an, .inl (cI, nn, .inl fw))]) (As := [.int 1]) (n := 1) (st := []) (q0 := 0) X (c_fileOf_1 l D cI cB x0 ro rn rt rr o g z nbs nwd ) rfl rfl ml_X4_57 im_X4_fileOf se_X4_fileOf ini_X4 co_X4_fileOf (by decide +kernel) rfl ⟨Nat.le_of_ble_eq_true rfl, Nat.le_of_ble_eq_true rfl⟩ (⟨by (try dsimp only); omega, by (try dsimp only); omega⟩) (Nat.le_of_ble_eq_true rfl) [0] [1, 2] rfl rfl rfl (by decide) (by decide) (by decide) rfl dX4_put_2 (fun v_2 u_2 hu_2 => ?_)
  obtain ⟨rfl, rfl⟩ := hu_2
  refine k_to (ws' := [(rn, .inr (1, [.int (nI 2000), .ref an, .int (nI kn)])), (an, .inl (cI, nn, .inl fw)), (x0, .inr (4, [.ref ro, .ref rn, .ref rt, .ref rr, .ref o, .ref g, .ref z, .int (nI nbs), .int (nI nwd)]))]) (st' := [.ref rn]) rfl rfl ?_
  refine k_astore (lv' := [(4, .ref rn), (0, .ref x0), (1, .int 1), (2, .int x), (3, .int b)]) X dX4_put_5 (by decide) rfl ?_
  refine k_aload X dX4_put_7 0 rfl ?_
  refine k_ifnull X dX4_put_9 ?_
  refine k_aload X dX4_put_12 0 rfl ?_
  refine k_iload_n X dX4_put_14 rfl 3 rfl ?_
  refine k_iload_n X dX4_put_15 rfl 4 rfl ?_
  refine k_callV (wc := [(rn, .inr (1, [.int (nI 2000), .ref an, .int (nI kn)])), (an, .inl (cI, nn, .inl fw))]) (wr := [(x0, .inr (4, [.ref ro, .ref rn, .ref rt, .ref rr, .ref o, .ref g, .ref z, .int (nI nbs), .int (nI nwd)]))]) (As := [.int x, .int b]) (n := 2) (st := []) (q0 := 0) X (c_set l D cI cB rn an 2000 kn nn fw x b (hkn) (hnn) (by omega)) rfl rfl ml_X4_75 im_X1_set se_X1_set ini_X1 co_X1_set (by decide +kernel) rfl ⟨Nat.le_of_ble_eq_true rfl, Nat.le_of_ble_eq_true rfl⟩ (⟨by (try dsimp only); omega, by (try dsimp only); omega⟩) (Nat.le_of_ble_eq_true rfl) [0, 1] [2] rfl rfl rfl (by decide) (by decide) (by decide) rfl dX4_put_16 (fun v_16 u_16 hu_16 => ?_)
  obtain ⟨rfl, rfl⟩ := hu_16
  refine k_to (ws' := [(x0, .inr (4, [.ref ro, .ref rn, .ref rt, .ref rr, .ref o, .ref g, .ref z, .int (nI nbs), .int (nI nwd)])), (rn, .inr (1, [.int (nI 2000), .ref an, .int (nI kn)])), (an, .inl (cI, nn, .inl (rSet fw kn x b)))]) (st' := [.int (b2i (decide (rIn x kn ∧ rByte b)))]) rfl rfl ?_
  by_cases hx : rIn x kn ∧ rByte b
  · refine k_as (y := 1) (b2i_t hx) ?_
    refine k_if_eq (tgt := 26) (xi := (1 : Int)) X (by decide) dX4_put_19 (by decide) (fun c_19 => ?_) (fun c_19 => ?_)
    · exact absurd c_19 (by decide)
    · refine k_iconst (v := 1) X dX4_put_22 (by decide) ?_
      refine k_goto (tgt := 27) X dX4_put_23 (by decide) ?_
      exact k_zret (u := [(x0, .inr (4, [.ref ro, .ref rn, .ref rt, .ref rr, .ref o, .ref g, .ref z, .int (nI nbs), .int (nI nwd)])), (rn, .inr (1, [.int (nI 2000), .ref an, .int (nI kn)])), (an, .inl (cI, nn, .inl (rSet fw kn x b)))]) X (by first | rfl | exact b2i_nar _ | decide) hr [0, 1, 2] (by decide) rfl rfl (⟨by rw [b2i_t hx], rfl⟩) (by (try dsimp only); omega) (by (try dsimp only); omega) dX4_put_27
  · refine k_as (y := 0) (b2i_f hx) ?_
    refine k_if_eq (tgt := 26) (xi := (0 : Int)) X (by decide) dX4_put_19 (by decide) (fun c_19 => ?_) (fun c_19 => ?_)
    · refine k_iconst (v := 0) X dX4_put_26 (by decide) ?_
      exact k_zret (u := [(x0, .inr (4, [.ref ro, .ref rn, .ref rt, .ref rr, .ref o, .ref g, .ref z, .int (nI nbs), .int (nI nwd)])), (rn, .inr (1, [.int (nI 2000), .ref an, .int (nI kn)])), (an, .inl (cI, nn, .inl (rSet fw kn x b)))]) X (by first | rfl | exact b2i_nar _ | decide) hr [0, 1, 2] (by decide) rfl rfl (⟨by rw [b2i_f hx], rfl⟩) (by (try dsimp only); omega) (by (try dsimp only); omega) dX4_put_27
    · exact absurd c_19 (by decide)
set_option maxHeartbeats 4000000 in
set_option maxRecDepth 100000 in
theorem c_cut_f (l : Launch) (D : va_G) (cI cB : ClassId) (x0 : Nat) (ro : Nat) (rn : Nat) (rt : Nat) (rr : Nat) (o : Nat) (g : Nat) (z : Nat) (nbs : Nat) (nwd : Nat) (wh : Int32) (x : Int32) (hwh : ¬ wh.toInt = 0 ∧ ¬ wh.toInt = 1) : kC l yX4_cut cX4_cut 4 (some .boolean) 1 21 (0) (0) D cI cB [.ref x0, .int wh, .int x] [(x0, .inr (4, [.ref ro, .ref rn, .ref rt, .ref rr, .ref o, .ref g, .ref z, .int (nI nbs), .int (nI nwd)]))] (fun (vV : Option Value) (uU : va_W) => vV = some (.int 0) ∧ uU = [(x0, .inr (4, [.ref ro, .ref rn, .ref rt, .ref rr, .ref o, .ref g, .ref z, .int (nI nbs), .int (nI nwd)]))]) := by
  refine k_entry (lv0 := [(0, .ref x0), (1, .int wh), (2, .int x)]) (by decide) (Nat.le_of_ble_eq_true rfl) rfl ?_
  intro zp ze zs zm zb zt zc zA X hr hin
  refine k_aload_n X dX4_cut_0 rfl 0 rfl ?_
  refine k_iload_n X dX4_cut_1 rfl 1 rfl ?_
  refine k_callV (wc := [(x0, .inr (4, [.ref ro, .ref rn, .ref rt, .ref rr, .ref o, .ref g, .ref z, .int (nI nbs), .int (nI nwd)]))]) (wr := []) (As := [.int wh]) (n := 1) (st := []) (q0 := 0) X (c_fileOf_f l D cI cB x0 ro rn rt rr o g z nbs nwd wh (hwh)) rfl rfl ml_X4_57 im_X4_fileOf se_X4_fileOf ini_X4 co_X4_fileOf (by decide +kernel) rfl ⟨Nat.le_of_ble_eq_true rfl, Nat.le_of_ble_eq_true rfl⟩ (⟨by (try dsimp only); omega, by (try dsimp only); omega⟩) (Nat.le_of_ble_eq_true rfl) [0] [] rfl rfl rfl (by decide) (by decide) (by decide) rfl dX4_cut_2 (fun v_2 u_2 hu_2 => ?_)
  obtain ⟨rfl, rfl⟩ := hu_2
  refine k_to (ws' := [(x0, .inr (4, [.ref ro, .ref rn, .ref rt, .ref rr, .ref o, .ref g, .ref z, .int (nI nbs), .int (nI nwd)]))]) (st' := [.null]) rfl rfl ?_
  refine k_astore_nN (lv' := [(3, .null), (0, .ref x0), (1, .int wh), (2, .int x)]) X dX4_cut_5 rfl (by decide) rfl ?_
  refine k_aload_nN X dX4_cut_6 rfl 0 rfl ?_
  refine k_ifnullN (tgt := 22) X dX4_cut_7 (by decide) ?_
  refine k_iconst (v := 0) X dX4_cut_22 (by decide) ?_
  exact k_zret (u := [(x0, .inr (4, [.ref ro, .ref rn, .ref rt, .ref rr, .ref o, .ref g, .ref z, .int (nI nbs), .int (nI nwd)]))]) X (by first | rfl | exact b2i_nar _ | decide) hr [0] (by decide) rfl rfl (⟨rfl, rfl⟩) (by (try dsimp only); omega) (by (try dsimp only); omega) dX4_cut_23
set_option maxHeartbeats 4000000 in
set_option maxRecDepth 100000 in
theorem c_put_f (l : Launch) (D : va_G) (cI cB : ClassId) (x0 : Nat) (ro : Nat) (rn : Nat) (rt : Nat) (rr : Nat) (o : Nat) (g : Nat) (z : Nat) (nbs : Nat) (nwd : Nat) (wh : Int32) (x : Int32) (b : Int32) (hwh : ¬ wh.toInt = 0 ∧ ¬ wh.toInt = 1) : kC l yX4_put cX4_put 5 (some .boolean) 1 21 (0) (0) D cI cB [.ref x0, .int wh, .int x, .int b] [(x0, .inr (4, [.ref ro, .ref rn, .ref rt, .ref rr, .ref o, .ref g, .ref z, .int (nI nbs), .int (nI nwd)]))] (fun (vV : Option Value) (uU : va_W) => vV = some (.int 0) ∧ uU = [(x0, .inr (4, [.ref ro, .ref rn, .ref rt, .ref rr, .ref o, .ref g, .ref z, .int (nI nbs), .int (nI nwd)]))]) := by
  refine k_entry (lv0 := [(0, .ref x0), (1, .int wh), (2, .int x), (3, .int b)]) (by decide) (Nat.le_of_ble_eq_true rfl) rfl ?_
  intro zp ze zs zm zb zt zc zA X hr hin
  refine k_aload_n X dX4_put_0 rfl 0 rfl ?_
  refine k_iload_n X dX4_put_1 rfl 1 rfl ?_
  refine k_callV (wc := [(x0, .inr (4, [.ref ro, .ref rn, .ref rt, .ref rr, .ref o, .ref g, .ref z, .int (nI nbs), .int (nI nwd)]))]) (wr := []) (As := [.int wh]) (n := 1) (st := []) (q0 := 0) X (c_fileOf_f l D cI cB x0 ro rn rt rr o g z nbs nwd wh (hwh)) rfl rfl ml_X4_57 im_X4_fileOf se_X4_fileOf ini_X4 co_X4_fileOf (by decide +kernel) rfl ⟨Nat.le_of_ble_eq_true rfl, Nat.le_of_ble_eq_true rfl⟩ (⟨by (try dsimp only); omega, by (try dsimp only); omega⟩) (Nat.le_of_ble_eq_true rfl) [0] [] rfl rfl rfl (by decide) (by decide) (by decide) rfl dX4_put_2 (fun v_2 u_2 hu_2 => ?_)
  obtain ⟨rfl, rfl⟩ := hu_2
  refine k_to (ws' := [(x0, .inr (4, [.ref ro, .ref rn, .ref rt, .ref rr, .ref o, .ref g, .ref z, .int (nI nbs), .int (nI nwd)]))]) (st' := [.null]) rfl rfl ?_
  refine k_astoreN (lv' := [(4, .null), (0, .ref x0), (1, .int wh), (2, .int x), (3, .int b)]) X dX4_put_5 (by decide) rfl ?_
  refine k_aloadN X dX4_put_7 0 rfl ?_
  refine k_ifnullN (tgt := 26) X dX4_put_9 (by decide) ?_
  refine k_iconst (v := 0) X dX4_put_26 (by decide) ?_
  exact k_zret (u := [(x0, .inr (4, [.ref ro, .ref rn, .ref rt, .ref rr, .ref o, .ref g, .ref z, .int (nI nbs), .int (nI nwd)]))]) X (by first | rfl | exact b2i_nar _ | decide) hr [0] (by decide) rfl rfl (⟨rfl, rfl⟩) (by (try dsimp only); omega) (by (try dsimp only); omega) dX4_put_27
set_option maxHeartbeats 4000000 in
set_option maxRecDepth 100000 in
theorem c_shape (l : Launch) (D : va_G) (cI cB : ClassId) (x0 : Nat) (ro : Nat) (rn : Nat) (rt : Nat) (rr : Nat) (o : Nat) (g : Nat) (z : Nat) (nbs : Nat) (nwd : Nat) (s1 : Nat) (w1 : Nat) (hs : 1 ≤ s1 ∧ s1 ≤ 256) (hw : 1 ≤ w1 ∧ w1 ≤ 16) : kC l yX4_shape cX4_shape 3 (some .boolean) 0 0 (0) (0) D cI cB [.ref x0, .int (nI s1), .int (nI w1)] [(x0, .inr (4, [.ref ro, .ref rn, .ref rt, .ref rr, .ref o, .ref g, .ref z, .int (nI nbs), .int (nI nwd)]))] (fun (vV : Option Value) (uU : va_W) => vV = some (.int 1) ∧ uU = [(x0, .inr (4, [.ref ro, .ref rn, .ref rt, .ref rr, .ref o, .ref g, .ref z, .int (nI s1), .int (nI w1)]))]) := by
  refine k_entry (lv0 := [(0, .ref x0), (1, .int (nI s1)), (2, .int (nI w1))]) (by decide) (Nat.le_of_ble_eq_true rfl) rfl ?_
  intro zp ze zs zm zb zt zc zA X hr hin
  refine k_iload_n X dX4_shape_0 rfl 1 rfl ?_
  refine k_iconst (v := 1) X dX4_shape_1 (by decide) ?_
  refine k_icmp_lt (tgt := 23) (xi := ((s1 : Nat) : Int)) (yi := (1 : Int)) X (nI_toInt (by omega)) (by decide) dX4_shape_2 (by decide) (fun c_2 => ?_) (fun c_2 => ?_)
  · exact absurd c_2 (by omega)
  · refine k_iload_n X dX4_shape_5 rfl 1 rfl ?_
    refine k_sipush (v := 256) X dX4_shape_6 (by decide) ?_
    refine k_icmp_gt (tgt := 23) (xi := ((s1 : Nat) : Int)) (yi := (256 : Int)) X (nI_toInt (by omega)) (by decide) dX4_shape_9 (by decide) (fun c_9 => ?_) (fun c_9 => ?_)
    · exact absurd c_9 (by omega)
    · refine k_iload_n X dX4_shape_12 rfl 2 rfl ?_
      refine k_iconst (v := 1) X dX4_shape_13 (by decide) ?_
      refine k_icmp_lt (tgt := 23) (xi := ((w1 : Nat) : Int)) (yi := (1 : Int)) X (nI_toInt (by omega)) (by decide) dX4_shape_14 (by decide) (fun c_14 => ?_) (fun c_14 => ?_)
      · exact absurd c_14 (by omega)
      · refine k_iload_n X dX4_shape_17 rfl 2 rfl ?_
        refine k_bipush (v := 16) X dX4_shape_18 (by decide) ?_
        refine k_icmp_le (tgt := 25) (xi := ((w1 : Nat) : Int)) (yi := (16 : Int)) X (nI_toInt (by omega)) (by decide) dX4_shape_20 (by decide) (fun c_20 => ?_) (fun c_20 => ?_)
        · refine k_aload_n X dX4_shape_25 rfl 0 rfl ?_
          refine k_iload_n X dX4_shape_26 rfl 1 rfl ?_
          refine k_put (v := .int (nI s1)) (ty := .int) (ws' := [(x0, .inr (4, [.ref ro, .ref rn, .ref rt, .ref rr, .ref o, .ref g, .ref z, .int (nI s1), .int (nI nwd)]))]) X 0 4 7 tyX4 tyX4_ok nmX4 rfl rfl (by decide) fl_X4_50 in_X4 rfl rfl (by decide +kernel) rfl rfl (Nat.le_of_ble_eq_true rfl) rfl dX4_shape_27 ?_
          refine k_aload_n X dX4_shape_30 rfl 0 rfl ?_
          refine k_iload_n X dX4_shape_31 rfl 2 rfl ?_
          refine k_put (v := .int (nI w1)) (ty := .int) (ws' := [(x0, .inr (4, [.ref ro, .ref rn, .ref rt, .ref rr, .ref o, .ref g, .ref z, .int (nI s1), .int (nI w1)]))]) X 0 4 8 tyX4 tyX4_ok nmX4 rfl rfl (by decide) fl_X4_54 in_X4 rfl rfl (by decide +kernel) rfl rfl (Nat.le_of_ble_eq_true rfl) rfl dX4_shape_32 ?_
          refine k_iconst (v := 1) X dX4_shape_35 (by decide) ?_
          exact k_zret (u := [(x0, .inr (4, [.ref ro, .ref rn, .ref rt, .ref rr, .ref o, .ref g, .ref z, .int (nI s1), .int (nI w1)]))]) X (by first | rfl | exact b2i_nar _ | decide) hr [0] (by decide) rfl rfl (⟨rfl, rfl⟩) (by (try dsimp only); omega) (by (try dsimp only); omega) dX4_shape_36
        · exact absurd c_20 (by omega)
set_option maxHeartbeats 4000000 in
set_option maxRecDepth 100000 in
theorem c_shape_f (l : Launch) (D : va_G) (cI cB : ClassId) (x0 : Nat) (ro : Nat) (rn : Nat) (rt : Nat) (rr : Nat) (o : Nat) (g : Nat) (z : Nat) (nbs : Nat) (nwd : Nat) (s1 : Int32) (w1 : Int32) (hf : ¬ (1 ≤ s1.toInt ∧ s1.toInt ≤ 256 ∧ 1 ≤ w1.toInt ∧ w1.toInt ≤ 16)) : kC l yX4_shape cX4_shape 3 (some .boolean) 0 0 (0) (0) D cI cB [.ref x0, .int s1, .int w1] [(x0, .inr (4, [.ref ro, .ref rn, .ref rt, .ref rr, .ref o, .ref g, .ref z, .int (nI nbs), .int (nI nwd)]))] (fun (vV : Option Value) (uU : va_W) => vV = some (.int 0) ∧ uU = [(x0, .inr (4, [.ref ro, .ref rn, .ref rt, .ref rr, .ref o, .ref g, .ref z, .int (nI nbs), .int (nI nwd)]))]) := by
  refine k_entry (lv0 := [(0, .ref x0), (1, .int s1), (2, .int w1)]) (by decide) (Nat.le_of_ble_eq_true rfl) rfl ?_
  intro zp ze zs zm zb zt zc zA X hr hin
  refine k_iload_n X dX4_shape_0 rfl 1 rfl ?_
  refine k_iconst (v := 1) X dX4_shape_1 (by decide) ?_
  refine k_icmp_lt (tgt := 23) (xi := s1.toInt) (yi := (1 : Int)) X (rfl) (by decide) dX4_shape_2 (by decide) (fun c_2 => ?_) (fun c_2 => ?_)
  · refine k_iconst (v := 0) X dX4_shape_23 (by decide) ?_
    exact k_zret (u := [(x0, .inr (4, [.ref ro, .ref rn, .ref rt, .ref rr, .ref o, .ref g, .ref z, .int (nI nbs), .int (nI nwd)]))]) X (by first | rfl | exact b2i_nar _ | decide) hr [0] (by decide) rfl rfl (⟨rfl, rfl⟩) (by (try dsimp only); omega) (by (try dsimp only); omega) dX4_shape_24
  · refine k_iload_n X dX4_shape_5 rfl 1 rfl ?_
    refine k_sipush (v := 256) X dX4_shape_6 (by decide) ?_
    refine k_icmp_gt (tgt := 23) (xi := s1.toInt) (yi := (256 : Int)) X (rfl) (by decide) dX4_shape_9 (by decide) (fun c_9 => ?_) (fun c_9 => ?_)
    · refine k_iconst (v := 0) X dX4_shape_23 (by decide) ?_
      exact k_zret (u := [(x0, .inr (4, [.ref ro, .ref rn, .ref rt, .ref rr, .ref o, .ref g, .ref z, .int (nI nbs), .int (nI nwd)]))]) X (by first | rfl | exact b2i_nar _ | decide) hr [0] (by decide) rfl rfl (⟨rfl, rfl⟩) (by (try dsimp only); omega) (by (try dsimp only); omega) dX4_shape_24
    · refine k_iload_n X dX4_shape_12 rfl 2 rfl ?_
      refine k_iconst (v := 1) X dX4_shape_13 (by decide) ?_
      refine k_icmp_lt (tgt := 23) (xi := w1.toInt) (yi := (1 : Int)) X (rfl) (by decide) dX4_shape_14 (by decide) (fun c_14 => ?_) (fun c_14 => ?_)
      · refine k_iconst (v := 0) X dX4_shape_23 (by decide) ?_
        exact k_zret (u := [(x0, .inr (4, [.ref ro, .ref rn, .ref rt, .ref rr, .ref o, .ref g, .ref z, .int (nI nbs), .int (nI nwd)]))]) X (by first | rfl | exact b2i_nar _ | decide) hr [0] (by decide) rfl rfl (⟨rfl, rfl⟩) (by (try dsimp only); omega) (by (try dsimp only); omega) dX4_shape_24
      · refine k_iload_n X dX4_shape_17 rfl 2 rfl ?_
        refine k_bipush (v := 16) X dX4_shape_18 (by decide) ?_
        refine k_icmp_le (tgt := 25) (xi := w1.toInt) (yi := (16 : Int)) X (rfl) (by decide) dX4_shape_20 (by decide) (fun c_20 => ?_) (fun c_20 => ?_)
        · exact absurd c_20 (by omega)
        · refine k_iconst (v := 0) X dX4_shape_23 (by decide) ?_
          exact k_zret (u := [(x0, .inr (4, [.ref ro, .ref rn, .ref rt, .ref rr, .ref o, .ref g, .ref z, .int (nI nbs), .int (nI nwd)]))]) X (by first | rfl | exact b2i_nar _ | decide) hr [0] (by decide) rfl rfl (⟨rfl, rfl⟩) (by (try dsimp only); omega) (by (try dsimp only); omega) dX4_shape_24
set_option maxHeartbeats 4000000 in
set_option maxRecDepth 100000 in
theorem c_sum (l : Launch) (D : va_G) (cI cB : ClassId) (x0 : Nat) (ro : Nat) (rn : Nat) (rt : Nat) (rr : Nat) (o : Nat) (g : Nat) (z : Nat) (nbs : Nat) (nwd : Nat) (qs : Nat) (qd : Nat) (qh : Nat) (qn : Nat) (bs : Nat) (wd : Nat) (nb : Nat) (N : Nat) (sm : Nat → Int32) (b : Nat) (hN : nb ≤ N) (hN2 : N ≤ 2000) (hb : b < nb) : kC l yX4_sum cX4_sum 2 (some .int) 2 42 (0) (0) D cI cB [.ref x0, .int (nI b)] [(x0, .inr (4, [.ref ro, .ref rn, .ref rt, .ref rr, .ref o, .ref g, .ref z, .int (nI nbs), .int (nI nwd)])), (g, .inr (2, [.int (nI bs), .int (nI wd), .int (nI nb), .ref qs, .ref qd, .ref qh, .ref qn])), (qs, .inl (cI, N, .inl sm))] (fun (vV : Option Value) (uU : va_W) => vV = some (.int (sm b)) ∧ uU = [(x0, .inr (4, [.ref ro, .ref rn, .ref rt, .ref rr, .ref o, .ref g, .ref z, .int (nI nbs), .int (nI nwd)])), (g, .inr (2, [.int (nI bs), .int (nI wd), .int (nI nb), .ref qs, .ref qd, .ref qh, .ref qn])), (qs, .inl (cI, N, .inl sm))]) := by
  refine k_entry (lv0 := [(0, .ref x0), (1, .int (nI b))]) (by decide) (Nat.le_of_ble_eq_true rfl) rfl ?_
  intro zp ze zs zm zb zt zc zA X hr hin
  refine k_aload_n X dX4_sum_0 rfl 0 rfl ?_
  refine k_get (v := .ref g) X 0 4 5 rfl rfl (by decide) fl_X4_37 in_X4 rfl rfl dX4_sum_1 ?_
  refine k_iload_n X dX4_sum_4 rfl 1 rfl ?_
  refine k_callV (wc := [(g, .inr (2, [.int (nI bs), .int (nI wd), .int (nI nb), .ref qs, .ref qd, .ref qh, .ref qn])), (qs, .inl (cI, N, .inl sm))]) (wr := [(x0, .inr (4, [.ref ro, .ref rn, .ref rt, .ref rr, .ref o, .ref g, .ref z, .int (nI nbs), .int (nI nwd)]))]) (As := [.int (nI b)]) (n := 1) (st := []) (q0 := 0) X (c_sumOf l D cI cB g qs qd qh qn bs wd nb N sm b (hN) (hN2) (hb)) rfl rfl ml_X4_86 im_X2_sumOf se_X2_sumOf ini_X2 co_X2_sumOf (by decide +kernel) rfl ⟨Nat.le_of_ble_eq_true rfl, Nat.le_of_ble_eq_true rfl⟩ (⟨by (try dsimp only); omega, by (try dsimp only); omega⟩) (Nat.le_of_ble_eq_true rfl) [1, 2] [0] rfl rfl rfl (by decide) (by decide) (by decide) rfl dX4_sum_5 (fun v_5 u_5 hu_5 => ?_)
  obtain ⟨rfl, rfl⟩ := hu_5
  refine k_to (ws' := [(x0, .inr (4, [.ref ro, .ref rn, .ref rt, .ref rr, .ref o, .ref g, .ref z, .int (nI nbs), .int (nI nwd)])), (g, .inr (2, [.int (nI bs), .int (nI wd), .int (nI nb), .ref qs, .ref qd, .ref qh, .ref qn])), (qs, .inl (cI, N, .inl sm))]) (st' := [.int (sm b)]) rfl rfl ?_
  exact k_iret (u := [(x0, .inr (4, [.ref ro, .ref rn, .ref rt, .ref rr, .ref o, .ref g, .ref z, .int (nI nbs), .int (nI nwd)])), (g, .inr (2, [.int (nI bs), .int (nI wd), .int (nI nb), .ref qs, .ref qd, .ref qh, .ref qn])), (qs, .inl (cI, N, .inl sm))]) X hr [0, 1, 2] (by decide) rfl rfl (⟨rfl, rfl⟩) (by (try dsimp only); omega) (by (try dsimp only); omega) dX4_sum_8
set_option maxHeartbeats 4000000 in
set_option maxRecDepth 100000 in
theorem c_sum_f (l : Launch) (D : va_G) (cI cB : ClassId) (x0 : Nat) (ro : Nat) (rn : Nat) (rt : Nat) (rr : Nat) (o : Nat) (g : Nat) (z : Nat) (nbs : Nat) (nwd : Nat) (qs : Nat) (qd : Nat) (qh : Nat) (qn : Nat) (bs : Nat) (wd : Nat) (nb : Nat) (i : Int32) (hnb : nb ≤ 2000) (hf : ¬ rIn i nb) : kC l yX4_sum cX4_sum 2 (some .int) 2 42 (0) (0) D cI cB [.ref x0, .int i] [(x0, .inr (4, [.ref ro, .ref rn, .ref rt, .ref rr, .ref o, .ref g, .ref z, .int (nI nbs), .int (nI nwd)])), (g, .inr (2, [.int (nI bs), .int (nI wd), .int (nI nb), .ref qs, .ref qd, .ref qh, .ref qn]))] (fun (vV : Option Value) (uU : va_W) => vV = some (.int 0) ∧ uU = [(x0, .inr (4, [.ref ro, .ref rn, .ref rt, .ref rr, .ref o, .ref g, .ref z, .int (nI nbs), .int (nI nwd)])), (g, .inr (2, [.int (nI bs), .int (nI wd), .int (nI nb), .ref qs, .ref qd, .ref qh, .ref qn]))]) := by
  refine k_entry (lv0 := [(0, .ref x0), (1, .int i)]) (by decide) (Nat.le_of_ble_eq_true rfl) rfl ?_
  intro zp ze zs zm zb zt zc zA X hr hin
  refine k_aload_n X dX4_sum_0 rfl 0 rfl ?_
  refine k_get (v := .ref g) X 0 4 5 rfl rfl (by decide) fl_X4_37 in_X4 rfl rfl dX4_sum_1 ?_
  refine k_iload_n X dX4_sum_4 rfl 1 rfl ?_
  refine k_callV (wc := [(g, .inr (2, [.int (nI bs), .int (nI wd), .int (nI nb), .ref qs, .ref qd, .ref qh, .ref qn]))]) (wr := [(x0, .inr (4, [.ref ro, .ref rn, .ref rt, .ref rr, .ref o, .ref g, .ref z, .int (nI nbs), .int (nI nwd)]))]) (As := [.int i]) (n := 1) (st := []) (q0 := 0) X (c_sumOf_f l D cI cB g qs qd qh qn bs wd nb i (hnb) (hf)) rfl rfl ml_X4_86 im_X2_sumOf se_X2_sumOf ini_X2 co_X2_sumOf (by decide +kernel) rfl ⟨Nat.le_of_ble_eq_true rfl, Nat.le_of_ble_eq_true rfl⟩ (⟨by (try dsimp only); omega, by (try dsimp only); omega⟩) (Nat.le_of_ble_eq_true rfl) [1] [0] rfl rfl rfl (by decide) (by decide) (by decide) rfl dX4_sum_5 (fun v_5 u_5 hu_5 => ?_)
  obtain ⟨rfl, rfl⟩ := hu_5
  refine k_to (ws' := [(x0, .inr (4, [.ref ro, .ref rn, .ref rt, .ref rr, .ref o, .ref g, .ref z, .int (nI nbs), .int (nI nwd)])), (g, .inr (2, [.int (nI bs), .int (nI wd), .int (nI nb), .ref qs, .ref qd, .ref qh, .ref qn]))]) (st' := [.int 0]) rfl rfl ?_
  exact k_iret (u := [(x0, .inr (4, [.ref ro, .ref rn, .ref rt, .ref rr, .ref o, .ref g, .ref z, .int (nI nbs), .int (nI nwd)])), (g, .inr (2, [.int (nI bs), .int (nI wd), .int (nI nb), .ref qs, .ref qd, .ref qh, .ref qn]))]) X hr [0, 1] (by decide) rfl rfl (⟨rfl, rfl⟩) (by (try dsimp only); omega) (by (try dsimp only); omega) dX4_sum_8
set_option maxHeartbeats 4000000 in
set_option maxRecDepth 100000 in
theorem c_digest (l : Launch) (D : va_G) (cI cB : ClassId) (x0 : Nat) (ro : Nat) (rn : Nat) (rt : Nat) (rr : Nat) (o : Nat) (g : Nat) (z : Nat) (nbs : Nat) (nwd : Nat) (qs : Nat) (qd : Nat) (qh : Nat) (qn : Nat) (bs : Nat) (wd : Nat) (nb : Nat) (N : Nat) (dg : Nat → Int32) (b : Nat) (k : Nat) (hN : nb ≤ N) (hN2 : N ≤ 2000) (hb : b < nb) (hk : k < wd) (hwd : wd ≤ 16) : kC l yX4_digest cX4_digest 3 (some .int) 2 43 (0) (0) D cI cB [.ref x0, .int (nI b), .int (nI k)] [(x0, .inr (4, [.ref ro, .ref rn, .ref rt, .ref rr, .ref o, .ref g, .ref z, .int (nI nbs), .int (nI nwd)])), (g, .inr (2, [.int (nI bs), .int (nI wd), .int (nI nb), .ref qs, .ref qd, .ref qh, .ref qn])), (qd, .inl (cB, (16 * N), .inl dg))] (fun (vV : Option Value) (uU : va_W) => vV = some (.int (dg (16 * b + k) &&& 255)) ∧ uU = [(x0, .inr (4, [.ref ro, .ref rn, .ref rt, .ref rr, .ref o, .ref g, .ref z, .int (nI nbs), .int (nI nwd)])), (g, .inr (2, [.int (nI bs), .int (nI wd), .int (nI nb), .ref qs, .ref qd, .ref qh, .ref qn])), (qd, .inl (cB, (16 * N), .inl dg))]) := by
  refine k_entry (lv0 := [(0, .ref x0), (1, .int (nI b)), (2, .int (nI k))]) (by decide) (Nat.le_of_ble_eq_true rfl) rfl ?_
  intro zp ze zs zm zb zt zc zA X hr hin
  refine k_aload_n X dX4_digest_0 rfl 0 rfl ?_
  refine k_get (v := .ref g) X 0 4 5 rfl rfl (by decide) fl_X4_37 in_X4 rfl rfl dX4_digest_1 ?_
  refine k_iload_n X dX4_digest_4 rfl 1 rfl ?_
  refine k_iload_n X dX4_digest_5 rfl 2 rfl ?_
  refine k_callV (wc := [(g, .inr (2, [.int (nI bs), .int (nI wd), .int (nI nb), .ref qs, .ref qd, .ref qh, .ref qn])), (qd, .inl (cB, (16 * N), .inl dg))]) (wr := [(x0, .inr (4, [.ref ro, .ref rn, .ref rt, .ref rr, .ref o, .ref g, .ref z, .int (nI nbs), .int (nI nwd)]))]) (As := [.int (nI b), .int (nI k)]) (n := 2) (st := []) (q0 := 0) X (c_digB l D cI cB g qs qd qh qn bs wd nb N dg b k (hN) (hN2) (hb) (hk) (hwd)) rfl rfl ml_X4_90 im_X2_digestByte se_X2_digestByte ini_X2 co_X2_digestByte (by decide +kernel) rfl ⟨Nat.le_of_ble_eq_true rfl, Nat.le_of_ble_eq_true rfl⟩ (⟨by (try dsimp only); omega, by (try dsimp only); omega⟩) (Nat.le_of_ble_eq_true rfl) [1, 2] [0] rfl rfl rfl (by decide) (by decide) (by decide) rfl dX4_digest_6 (fun v_6 u_6 hu_6 => ?_)
  obtain ⟨rfl, rfl⟩ := hu_6
  refine k_to (ws' := [(x0, .inr (4, [.ref ro, .ref rn, .ref rt, .ref rr, .ref o, .ref g, .ref z, .int (nI nbs), .int (nI nwd)])), (g, .inr (2, [.int (nI bs), .int (nI wd), .int (nI nb), .ref qs, .ref qd, .ref qh, .ref qn])), (qd, .inl (cB, (16 * N), .inl dg))]) (st' := [.int (dg (16 * b + k) &&& 255)]) rfl rfl ?_
  exact k_iret (u := [(x0, .inr (4, [.ref ro, .ref rn, .ref rt, .ref rr, .ref o, .ref g, .ref z, .int (nI nbs), .int (nI nwd)])), (g, .inr (2, [.int (nI bs), .int (nI wd), .int (nI nb), .ref qs, .ref qd, .ref qh, .ref qn])), (qd, .inl (cB, (16 * N), .inl dg))]) X hr [0, 1, 2] (by decide) rfl rfl (⟨rfl, rfl⟩) (by (try dsimp only); omega) (by (try dsimp only); omega) dX4_digest_9
set_option maxHeartbeats 4000000 in
set_option maxRecDepth 100000 in
theorem c_digest_f (l : Launch) (D : va_G) (cI cB : ClassId) (x0 : Nat) (ro : Nat) (rn : Nat) (rt : Nat) (rr : Nat) (o : Nat) (g : Nat) (z : Nat) (nbs : Nat) (nwd : Nat) (qs : Nat) (qd : Nat) (qh : Nat) (qn : Nat) (bs : Nat) (wd : Nat) (nb : Nat) (i : Int32) (j : Int32) (hnb : nb ≤ 2000) (hwd : wd ≤ 16) (hf : ¬ (rIn i nb ∧ rIn j wd)) : kC l yX4_digest cX4_digest 3 (some .int) 2 43 (0) (0) D cI cB [.ref x0, .int i, .int j] [(x0, .inr (4, [.ref ro, .ref rn, .ref rt, .ref rr, .ref o, .ref g, .ref z, .int (nI nbs), .int (nI nwd)])), (g, .inr (2, [.int (nI bs), .int (nI wd), .int (nI nb), .ref qs, .ref qd, .ref qh, .ref qn]))] (fun (vV : Option Value) (uU : va_W) => vV = some (.int (-1)) ∧ uU = [(x0, .inr (4, [.ref ro, .ref rn, .ref rt, .ref rr, .ref o, .ref g, .ref z, .int (nI nbs), .int (nI nwd)])), (g, .inr (2, [.int (nI bs), .int (nI wd), .int (nI nb), .ref qs, .ref qd, .ref qh, .ref qn]))]) := by
  refine k_entry (lv0 := [(0, .ref x0), (1, .int i), (2, .int j)]) (by decide) (Nat.le_of_ble_eq_true rfl) rfl ?_
  intro zp ze zs zm zb zt zc zA X hr hin
  refine k_aload_n X dX4_digest_0 rfl 0 rfl ?_
  refine k_get (v := .ref g) X 0 4 5 rfl rfl (by decide) fl_X4_37 in_X4 rfl rfl dX4_digest_1 ?_
  refine k_iload_n X dX4_digest_4 rfl 1 rfl ?_
  refine k_iload_n X dX4_digest_5 rfl 2 rfl ?_
  refine k_callV (wc := [(g, .inr (2, [.int (nI bs), .int (nI wd), .int (nI nb), .ref qs, .ref qd, .ref qh, .ref qn]))]) (wr := [(x0, .inr (4, [.ref ro, .ref rn, .ref rt, .ref rr, .ref o, .ref g, .ref z, .int (nI nbs), .int (nI nwd)]))]) (As := [.int i, .int j]) (n := 2) (st := []) (q0 := 0) X (c_digB_f l D cI cB g qs qd qh qn bs wd nb i j (hnb) (hwd) (hf)) rfl rfl ml_X4_90 im_X2_digestByte se_X2_digestByte ini_X2 co_X2_digestByte (by decide +kernel) rfl ⟨Nat.le_of_ble_eq_true rfl, Nat.le_of_ble_eq_true rfl⟩ (⟨by (try dsimp only); omega, by (try dsimp only); omega⟩) (Nat.le_of_ble_eq_true rfl) [1] [0] rfl rfl rfl (by decide) (by decide) (by decide) rfl dX4_digest_6 (fun v_6 u_6 hu_6 => ?_)
  obtain ⟨rfl, rfl⟩ := hu_6
  refine k_to (ws' := [(x0, .inr (4, [.ref ro, .ref rn, .ref rt, .ref rr, .ref o, .ref g, .ref z, .int (nI nbs), .int (nI nwd)])), (g, .inr (2, [.int (nI bs), .int (nI wd), .int (nI nb), .ref qs, .ref qd, .ref qh, .ref qn]))]) (st' := [.int (-1)]) rfl rfl ?_
  exact k_iret (u := [(x0, .inr (4, [.ref ro, .ref rn, .ref rt, .ref rr, .ref o, .ref g, .ref z, .int (nI nbs), .int (nI nwd)])), (g, .inr (2, [.int (nI bs), .int (nI wd), .int (nI nb), .ref qs, .ref qd, .ref qh, .ref qn]))]) X hr [0, 1] (by decide) rfl rfl (⟨rfl, rfl⟩) (by (try dsimp only); omega) (by (try dsimp only); omega) dX4_digest_9
set_option maxHeartbeats 4000000 in
set_option maxRecDepth 100000 in
theorem c_at_0 (l : Launch) (D : va_G) (cI cB : ClassId) (x0 : Nat) (ro : Nat) (rn : Nat) (rt : Nat) (rr : Nat) (o : Nat) (g : Nat) (z : Nat) (nbs : Nat) (nwd : Nat) (ao : Nat) (no : Nat) (fo : Nat → Int32) (ko : Nat) (x : Int32) (hko : ko ≤ no) (hno : no ≤ 2000) (h1o : 1 ≤ no) : kC l yX4_at cX4_at 4 (some .int) 1 21 (0) (0) D cI cB [.ref x0, .int 0, .int x] [(x0, .inr (4, [.ref ro, .ref rn, .ref rt, .ref rr, .ref o, .ref g, .ref z, .int (nI nbs), .int (nI nwd)])), (ro, .inr (1, [.int (nI 2000), .ref ao, .int (nI ko)])), (ao, .inl (cI, no, .inl fo))] (fun (vV : Option Value) (uU : va_W) => vV = some (.int (rGet fo ko x)) ∧ uU = [(x0, .inr (4, [.ref ro, .ref rn, .ref rt, .ref rr, .ref o, .ref g, .ref z, .int (nI nbs), .int (nI nwd)])), (ro, .inr (1, [.int (nI 2000), .ref ao, .int (nI ko)])), (ao, .inl (cI, no, .inl fo))]) := by
  refine k_entry (lv0 := [(0, .ref x0), (1, .int 0), (2, .int x)]) (by decide) (Nat.le_of_ble_eq_true rfl) rfl ?_
  intro zp ze zs zm zb zt zc zA X hr hin
  refine k_aload_n X dX4_at_0 rfl 0 rfl ?_
  refine k_iload_n X dX4_at_1 rfl 1 rfl ?_
  refine k_callV (wc := [(x0, .inr (4, [.ref ro, .ref rn, .ref rt, .ref rr, .ref o, .ref g, .ref z, .int (nI nbs), .int (nI nwd)]))]) (wr := [(ro, .inr (1, [.int (nI 2000), .ref ao, .int (nI ko)])), (ao, .inl (cI, no, .inl fo))]) (As := [.int 0]) (n := 1) (st := []) (q0 := 0) X (c_rowOf_0 l D cI cB x0 ro rn rt rr o g z nbs nwd ) rfl rfl ml_X4_104 im_X4_rowOf se_X4_rowOf ini_X4 co_X4_rowOf (by decide +kernel) rfl ⟨Nat.le_of_ble_eq_true rfl, Nat.le_of_ble_eq_true rfl⟩ (⟨by (try dsimp only); omega, by (try dsimp only); omega⟩) (Nat.le_of_ble_eq_true rfl) [0] [1, 2] rfl rfl rfl (by decide) (by decide) (by decide) rfl dX4_at_2 (fun v_2 u_2 hu_2 => ?_)
  obtain ⟨rfl, rfl⟩ := hu_2
  refine k_to (ws' := [(ro, .inr (1, [.int (nI 2000), .ref ao, .int (nI ko)])), (ao, .inl (cI, no, .inl fo)), (x0, .inr (4, [.ref ro, .ref rn, .ref rt, .ref rr, .ref o, .ref g, .ref z, .int (nI nbs), .int (nI nwd)]))]) (st' := [.ref ro]) rfl rfl ?_
  refine k_astore_n (lv' := [(3, .ref ro), (0, .ref x0), (1, .int 0), (2, .int x)]) X dX4_at_5 rfl (by decide) rfl ?_
  refine k_aload_n X dX4_at_6 rfl 0 rfl ?_
  refine k_ifnonnull (tgt := 14) X dX4_at_7 (by decide) ?_
  refine k_aload_n X dX4_at_14 rfl 0 rfl ?_
  refine k_iload_n X dX4_at_15 rfl 3 rfl ?_
  refine k_callV (wc := [(ro, .inr (1, [.int (nI 2000), .ref ao, .int (nI ko)])), (ao, .inl (cI, no, .inl fo))]) (wr := [(x0, .inr (4, [.ref ro, .ref rn, .ref rt, .ref rr, .ref o, .ref g, .ref z, .int (nI nbs), .int (nI nwd)]))]) (As := [.int x]) (n := 1) (st := []) (q0 := 0) X (c_get l D cI cB ro ao 2000 ko no fo x (hko) (hno) (by omega)) rfl rfl ml_X4_107 im_X1_get se_X1_get ini_X1 co_X1_get (by decide +kernel) rfl ⟨Nat.le_of_ble_eq_true rfl, Nat.le_of_ble_eq_true rfl⟩ (⟨by (try dsimp only); omega, by (try dsimp only); omega⟩) (Nat.le_of_ble_eq_true rfl) [0, 1] [2] rfl rfl rfl (by decide) (by decide) (by decide) rfl dX4_at_16 (fun v_16 u_16 hu_16 => ?_)
  obtain ⟨rfl, rfl⟩ := hu_16
  refine k_to (ws' := [(x0, .inr (4, [.ref ro, .ref rn, .ref rt, .ref rr, .ref o, .ref g, .ref z, .int (nI nbs), .int (nI nwd)])), (ro, .inr (1, [.int (nI 2000), .ref ao, .int (nI ko)])), (ao, .inl (cI, no, .inl fo))]) (st' := [.int (rGet fo ko x)]) rfl rfl ?_
  exact k_iret (u := [(x0, .inr (4, [.ref ro, .ref rn, .ref rt, .ref rr, .ref o, .ref g, .ref z, .int (nI nbs), .int (nI nwd)])), (ro, .inr (1, [.int (nI 2000), .ref ao, .int (nI ko)])), (ao, .inl (cI, no, .inl fo))]) X hr [0, 1, 2] (by decide) rfl rfl (⟨rfl, rfl⟩) (by (try dsimp only); omega) (by (try dsimp only); omega) dX4_at_19
set_option maxHeartbeats 4000000 in
set_option maxRecDepth 100000 in
theorem c_size_0 (l : Launch) (D : va_G) (cI cB : ClassId) (x0 : Nat) (ro : Nat) (rn : Nat) (rt : Nat) (rr : Nat) (o : Nat) (g : Nat) (z : Nat) (nbs : Nat) (nwd : Nat) (ao : Nat) (ko : Nat)  : kC l yX4_size cX4_size 3 (some .int) 1 21 (0) (0) D cI cB [.ref x0, .int 0] [(x0, .inr (4, [.ref ro, .ref rn, .ref rt, .ref rr, .ref o, .ref g, .ref z, .int (nI nbs), .int (nI nwd)])), (ro, .inr (1, [.int (nI 2000), .ref ao, .int (nI ko)]))] (fun (vV : Option Value) (uU : va_W) => vV = some (.int (nI ko)) ∧ uU = [(x0, .inr (4, [.ref ro, .ref rn, .ref rt, .ref rr, .ref o, .ref g, .ref z, .int (nI nbs), .int (nI nwd)])), (ro, .inr (1, [.int (nI 2000), .ref ao, .int (nI ko)]))]) := by
  refine k_entry (lv0 := [(0, .ref x0), (1, .int 0)]) (by decide) (Nat.le_of_ble_eq_true rfl) rfl ?_
  intro zp ze zs zm zb zt zc zA X hr hin
  refine k_aload_n X dX4_size_0 rfl 0 rfl ?_
  refine k_iload_n X dX4_size_1 rfl 1 rfl ?_
  refine k_callV (wc := [(x0, .inr (4, [.ref ro, .ref rn, .ref rt, .ref rr, .ref o, .ref g, .ref z, .int (nI nbs), .int (nI nwd)]))]) (wr := [(ro, .inr (1, [.int (nI 2000), .ref ao, .int (nI ko)]))]) (As := [.int 0]) (n := 1) (st := []) (q0 := 0) X (c_rowOf_0 l D cI cB x0 ro rn rt rr o g z nbs nwd ) rfl rfl ml_X4_104 im_X4_rowOf se_X4_rowOf ini_X4 co_X4_rowOf (by decide +kernel) rfl ⟨Nat.le_of_ble_eq_true rfl, Nat.le_of_ble_eq_true rfl⟩ (⟨by (try dsimp only); omega, by (try dsimp only); omega⟩) (Nat.le_of_ble_eq_true rfl) [0] [1] rfl rfl rfl (by decide) (by decide) (by decide) rfl dX4_size_2 (fun v_2 u_2 hu_2 => ?_)
  obtain ⟨rfl, rfl⟩ := hu_2
  refine k_to (ws' := [(ro, .inr (1, [.int (nI 2000), .ref ao, .int (nI ko)])), (x0, .inr (4, [.ref ro, .ref rn, .ref rt, .ref rr, .ref o, .ref g, .ref z, .int (nI nbs), .int (nI nwd)]))]) (st' := [.ref ro]) rfl rfl ?_
  refine k_astore_n (lv' := [(2, .ref ro), (0, .ref x0), (1, .int 0)]) X dX4_size_5 rfl (by decide) rfl ?_
  refine k_aload_n X dX4_size_6 rfl 0 rfl ?_
  refine k_ifnonnull (tgt := 14) X dX4_size_7 (by decide) ?_
  refine k_aload_n X dX4_size_14 rfl 0 rfl ?_
  refine k_callV (wc := [(ro, .inr (1, [.int (nI 2000), .ref ao, .int (nI ko)]))]) (wr := [(x0, .inr (4, [.ref ro, .ref rn, .ref rt, .ref rr, .ref o, .ref g, .ref z, .int (nI nbs), .int (nI nwd)]))]) (As := []) (n := 0) (st := []) (q0 := 0) X (c_length l D cI cB ro ao 2000 ko ) rfl rfl ml_X4_69 im_X1_length se_X1_length ini_X1 co_X1_length (by decide +kernel) rfl ⟨Nat.le_of_ble_eq_true rfl, Nat.le_of_ble_eq_true rfl⟩ (⟨by (try dsimp only); omega, by (try dsimp only); omega⟩) (Nat.le_of_ble_eq_true rfl) [0] [1] rfl rfl rfl (by decide) (by decide) (by decide) rfl dX4_size_15 (fun v_15 u_15 hu_15 => ?_)
  obtain ⟨rfl, rfl⟩ := hu_15
  refine k_to (ws' := [(x0, .inr (4, [.ref ro, .ref rn, .ref rt, .ref rr, .ref o, .ref g, .ref z, .int (nI nbs), .int (nI nwd)])), (ro, .inr (1, [.int (nI 2000), .ref ao, .int (nI ko)]))]) (st' := [.int (nI ko)]) rfl rfl ?_
  exact k_iret (u := [(x0, .inr (4, [.ref ro, .ref rn, .ref rt, .ref rr, .ref o, .ref g, .ref z, .int (nI nbs), .int (nI nwd)])), (ro, .inr (1, [.int (nI 2000), .ref ao, .int (nI ko)]))]) X hr [0, 1] (by decide) rfl rfl (⟨rfl, rfl⟩) (by (try dsimp only); omega) (by (try dsimp only); omega) dX4_size_18
set_option maxHeartbeats 4000000 in
set_option maxRecDepth 100000 in
theorem c_at_1 (l : Launch) (D : va_G) (cI cB : ClassId) (x0 : Nat) (ro : Nat) (rn : Nat) (rt : Nat) (rr : Nat) (o : Nat) (g : Nat) (z : Nat) (nbs : Nat) (nwd : Nat) (an : Nat) (nn : Nat) (fw : Nat → Int32) (kn : Nat) (x : Int32) (hkn : kn ≤ nn) (hnn : nn ≤ 2000) (h1n : 1 ≤ nn) : kC l yX4_at cX4_at 4 (some .int) 1 21 (0) (0) D cI cB [.ref x0, .int 1, .int x] [(x0, .inr (4, [.ref ro, .ref rn, .ref rt, .ref rr, .ref o, .ref g, .ref z, .int (nI nbs), .int (nI nwd)])), (rn, .inr (1, [.int (nI 2000), .ref an, .int (nI kn)])), (an, .inl (cI, nn, .inl fw))] (fun (vV : Option Value) (uU : va_W) => vV = some (.int (rGet fw kn x)) ∧ uU = [(x0, .inr (4, [.ref ro, .ref rn, .ref rt, .ref rr, .ref o, .ref g, .ref z, .int (nI nbs), .int (nI nwd)])), (rn, .inr (1, [.int (nI 2000), .ref an, .int (nI kn)])), (an, .inl (cI, nn, .inl fw))]) := by
  refine k_entry (lv0 := [(0, .ref x0), (1, .int 1), (2, .int x)]) (by decide) (Nat.le_of_ble_eq_true rfl) rfl ?_
  intro zp ze zs zm zb zt zc zA X hr hin
  refine k_aload_n X dX4_at_0 rfl 0 rfl ?_
  refine k_iload_n X dX4_at_1 rfl 1 rfl ?_
  refine k_callV (wc := [(x0, .inr (4, [.ref ro, .ref rn, .ref rt, .ref rr, .ref o, .ref g, .ref z, .int (nI nbs), .int (nI nwd)]))]) (wr := [(rn, .inr (1, [.int (nI 2000), .ref an, .int (nI kn)])), (an, .inl (cI, nn, .inl fw))]) (As := [.int 1]) (n := 1) (st := []) (q0 := 0) X (c_rowOf_1 l D cI cB x0 ro rn rt rr o g z nbs nwd ) rfl rfl ml_X4_104 im_X4_rowOf se_X4_rowOf ini_X4 co_X4_rowOf (by decide +kernel) rfl ⟨Nat.le_of_ble_eq_true rfl, Nat.le_of_ble_eq_true rfl⟩ (⟨by (try dsimp only); omega, by (try dsimp only); omega⟩) (Nat.le_of_ble_eq_true rfl) [0] [1, 2] rfl rfl rfl (by decide) (by decide) (by decide) rfl dX4_at_2 (fun v_2 u_2 hu_2 => ?_)
  obtain ⟨rfl, rfl⟩ := hu_2
  refine k_to (ws' := [(rn, .inr (1, [.int (nI 2000), .ref an, .int (nI kn)])), (an, .inl (cI, nn, .inl fw)), (x0, .inr (4, [.ref ro, .ref rn, .ref rt, .ref rr, .ref o, .ref g, .ref z, .int (nI nbs), .int (nI nwd)]))]) (st' := [.ref rn]) rfl rfl ?_
  refine k_astore_n (lv' := [(3, .ref rn), (0, .ref x0), (1, .int 1), (2, .int x)]) X dX4_at_5 rfl (by decide) rfl ?_
  refine k_aload_n X dX4_at_6 rfl 0 rfl ?_
  refine k_ifnonnull (tgt := 14) X dX4_at_7 (by decide) ?_
  refine k_aload_n X dX4_at_14 rfl 0 rfl ?_
  refine k_iload_n X dX4_at_15 rfl 3 rfl ?_
  refine k_callV (wc := [(rn, .inr (1, [.int (nI 2000), .ref an, .int (nI kn)])), (an, .inl (cI, nn, .inl fw))]) (wr := [(x0, .inr (4, [.ref ro, .ref rn, .ref rt, .ref rr, .ref o, .ref g, .ref z, .int (nI nbs), .int (nI nwd)]))]) (As := [.int x]) (n := 1) (st := []) (q0 := 0) X (c_get l D cI cB rn an 2000 kn nn fw x (hkn) (hnn) (by omega)) rfl rfl ml_X4_107 im_X1_get se_X1_get ini_X1 co_X1_get (by decide +kernel) rfl ⟨Nat.le_of_ble_eq_true rfl, Nat.le_of_ble_eq_true rfl⟩ (⟨by (try dsimp only); omega, by (try dsimp only); omega⟩) (Nat.le_of_ble_eq_true rfl) [0, 1] [2] rfl rfl rfl (by decide) (by decide) (by decide) rfl dX4_at_16 (fun v_16 u_16 hu_16 => ?_)
  obtain ⟨rfl, rfl⟩ := hu_16
  refine k_to (ws' := [(x0, .inr (4, [.ref ro, .ref rn, .ref rt, .ref rr, .ref o, .ref g, .ref z, .int (nI nbs), .int (nI nwd)])), (rn, .inr (1, [.int (nI 2000), .ref an, .int (nI kn)])), (an, .inl (cI, nn, .inl fw))]) (st' := [.int (rGet fw kn x)]) rfl rfl ?_
  exact k_iret (u := [(x0, .inr (4, [.ref ro, .ref rn, .ref rt, .ref rr, .ref o, .ref g, .ref z, .int (nI nbs), .int (nI nwd)])), (rn, .inr (1, [.int (nI 2000), .ref an, .int (nI kn)])), (an, .inl (cI, nn, .inl fw))]) X hr [0, 1, 2] (by decide) rfl rfl (⟨rfl, rfl⟩) (by (try dsimp only); omega) (by (try dsimp only); omega) dX4_at_19
set_option maxHeartbeats 4000000 in
set_option maxRecDepth 100000 in
theorem c_size_1 (l : Launch) (D : va_G) (cI cB : ClassId) (x0 : Nat) (ro : Nat) (rn : Nat) (rt : Nat) (rr : Nat) (o : Nat) (g : Nat) (z : Nat) (nbs : Nat) (nwd : Nat) (an : Nat) (kn : Nat)  : kC l yX4_size cX4_size 3 (some .int) 1 21 (0) (0) D cI cB [.ref x0, .int 1] [(x0, .inr (4, [.ref ro, .ref rn, .ref rt, .ref rr, .ref o, .ref g, .ref z, .int (nI nbs), .int (nI nwd)])), (rn, .inr (1, [.int (nI 2000), .ref an, .int (nI kn)]))] (fun (vV : Option Value) (uU : va_W) => vV = some (.int (nI kn)) ∧ uU = [(x0, .inr (4, [.ref ro, .ref rn, .ref rt, .ref rr, .ref o, .ref g, .ref z, .int (nI nbs), .int (nI nwd)])), (rn, .inr (1, [.int (nI 2000), .ref an, .int (nI kn)]))]) := by
  refine k_entry (lv0 := [(0, .ref x0), (1, .int 1)]) (by decide) (Nat.le_of_ble_eq_true rfl) rfl ?_
  intro zp ze zs zm zb zt zc zA X hr hin
  refine k_aload_n X dX4_size_0 rfl 0 rfl ?_
  refine k_iload_n X dX4_size_1 rfl 1 rfl ?_
  refine k_callV (wc := [(x0, .inr (4, [.ref ro, .ref rn, .ref rt, .ref rr, .ref o, .ref g, .ref z, .int (nI nbs), .int (nI nwd)]))]) (wr := [(rn, .inr (1, [.int (nI 2000), .ref an, .int (nI kn)]))]) (As := [.int 1]) (n := 1) (st := []) (q0 := 0) X (c_rowOf_1 l D cI cB x0 ro rn rt rr o g z nbs nwd ) rfl rfl ml_X4_104 im_X4_rowOf se_X4_rowOf ini_X4 co_X4_rowOf (by decide +kernel) rfl ⟨Nat.le_of_ble_eq_true rfl, Nat.le_of_ble_eq_true rfl⟩ (⟨by (try dsimp only); omega, by (try dsimp only); omega⟩) (Nat.le_of_ble_eq_true rfl) [0] [1] rfl rfl rfl (by decide) (by decide) (by decide) rfl dX4_size_2 (fun v_2 u_2 hu_2 => ?_)
  obtain ⟨rfl, rfl⟩ := hu_2
  refine k_to (ws' := [(rn, .inr (1, [.int (nI 2000), .ref an, .int (nI kn)])), (x0, .inr (4, [.ref ro, .ref rn, .ref rt, .ref rr, .ref o, .ref g, .ref z, .int (nI nbs), .int (nI nwd)]))]) (st' := [.ref rn]) rfl rfl ?_
  refine k_astore_n (lv' := [(2, .ref rn), (0, .ref x0), (1, .int 1)]) X dX4_size_5 rfl (by decide) rfl ?_
  refine k_aload_n X dX4_size_6 rfl 0 rfl ?_
  refine k_ifnonnull (tgt := 14) X dX4_size_7 (by decide) ?_
  refine k_aload_n X dX4_size_14 rfl 0 rfl ?_
  refine k_callV (wc := [(rn, .inr (1, [.int (nI 2000), .ref an, .int (nI kn)]))]) (wr := [(x0, .inr (4, [.ref ro, .ref rn, .ref rt, .ref rr, .ref o, .ref g, .ref z, .int (nI nbs), .int (nI nwd)]))]) (As := []) (n := 0) (st := []) (q0 := 0) X (c_length l D cI cB rn an 2000 kn ) rfl rfl ml_X4_69 im_X1_length se_X1_length ini_X1 co_X1_length (by decide +kernel) rfl ⟨Nat.le_of_ble_eq_true rfl, Nat.le_of_ble_eq_true rfl⟩ (⟨by (try dsimp only); omega, by (try dsimp only); omega⟩) (Nat.le_of_ble_eq_true rfl) [0] [1] rfl rfl rfl (by decide) (by decide) (by decide) rfl dX4_size_15 (fun v_15 u_15 hu_15 => ?_)
  obtain ⟨rfl, rfl⟩ := hu_15
  refine k_to (ws' := [(x0, .inr (4, [.ref ro, .ref rn, .ref rt, .ref rr, .ref o, .ref g, .ref z, .int (nI nbs), .int (nI nwd)])), (rn, .inr (1, [.int (nI 2000), .ref an, .int (nI kn)]))]) (st' := [.int (nI kn)]) rfl rfl ?_
  exact k_iret (u := [(x0, .inr (4, [.ref ro, .ref rn, .ref rt, .ref rr, .ref o, .ref g, .ref z, .int (nI nbs), .int (nI nwd)])), (rn, .inr (1, [.int (nI 2000), .ref an, .int (nI kn)]))]) X hr [0, 1] (by decide) rfl rfl (⟨rfl, rfl⟩) (by (try dsimp only); omega) (by (try dsimp only); omega) dX4_size_18
set_option maxHeartbeats 4000000 in
set_option maxRecDepth 100000 in
theorem c_at_2 (l : Launch) (D : va_G) (cI cB : ClassId) (x0 : Nat) (ro : Nat) (rn : Nat) (rt : Nat) (rr : Nat) (o : Nat) (g : Nat) (z : Nat) (nbs : Nat) (nwd : Nat) (a_t : Nat) (nt : Nat) (ft : Nat → Int32) (kt : Nat) (x : Int32) (hkt : kt ≤ nt) (hnt : nt ≤ 8000) (h1t : 1 ≤ nt) : kC l yX4_at cX4_at 4 (some .int) 1 21 (0) (0) D cI cB [.ref x0, .int 2, .int x] [(x0, .inr (4, [.ref ro, .ref rn, .ref rt, .ref rr, .ref o, .ref g, .ref z, .int (nI nbs), .int (nI nwd)])), (rt, .inr (1, [.int (nI 8000), .ref a_t, .int (nI kt)])), (a_t, .inl (cI, nt, .inl ft))] (fun (vV : Option Value) (uU : va_W) => vV = some (.int (rGet ft kt x)) ∧ uU = [(x0, .inr (4, [.ref ro, .ref rn, .ref rt, .ref rr, .ref o, .ref g, .ref z, .int (nI nbs), .int (nI nwd)])), (rt, .inr (1, [.int (nI 8000), .ref a_t, .int (nI kt)])), (a_t, .inl (cI, nt, .inl ft))]) := by
  refine k_entry (lv0 := [(0, .ref x0), (1, .int 2), (2, .int x)]) (by decide) (Nat.le_of_ble_eq_true rfl) rfl ?_
  intro zp ze zs zm zb zt zc zA X hr hin
  refine k_aload_n X dX4_at_0 rfl 0 rfl ?_
  refine k_iload_n X dX4_at_1 rfl 1 rfl ?_
  refine k_callV (wc := [(x0, .inr (4, [.ref ro, .ref rn, .ref rt, .ref rr, .ref o, .ref g, .ref z, .int (nI nbs), .int (nI nwd)]))]) (wr := [(rt, .inr (1, [.int (nI 8000), .ref a_t, .int (nI kt)])), (a_t, .inl (cI, nt, .inl ft))]) (As := [.int 2]) (n := 1) (st := []) (q0 := 0) X (c_rowOf_2 l D cI cB x0 ro rn rt rr o g z nbs nwd ) rfl rfl ml_X4_104 im_X4_rowOf se_X4_rowOf ini_X4 co_X4_rowOf (by decide +kernel) rfl ⟨Nat.le_of_ble_eq_true rfl, Nat.le_of_ble_eq_true rfl⟩ (⟨by (try dsimp only); omega, by (try dsimp only); omega⟩) (Nat.le_of_ble_eq_true rfl) [0] [1, 2] rfl rfl rfl (by decide) (by decide) (by decide) rfl dX4_at_2 (fun v_2 u_2 hu_2 => ?_)
  obtain ⟨rfl, rfl⟩ := hu_2
  refine k_to (ws' := [(rt, .inr (1, [.int (nI 8000), .ref a_t, .int (nI kt)])), (a_t, .inl (cI, nt, .inl ft)), (x0, .inr (4, [.ref ro, .ref rn, .ref rt, .ref rr, .ref o, .ref g, .ref z, .int (nI nbs), .int (nI nwd)]))]) (st' := [.ref rt]) rfl rfl ?_
  refine k_astore_n (lv' := [(3, .ref rt), (0, .ref x0), (1, .int 2), (2, .int x)]) X dX4_at_5 rfl (by decide) rfl ?_
  refine k_aload_n X dX4_at_6 rfl 0 rfl ?_
  refine k_ifnonnull (tgt := 14) X dX4_at_7 (by decide) ?_
  refine k_aload_n X dX4_at_14 rfl 0 rfl ?_
  refine k_iload_n X dX4_at_15 rfl 3 rfl ?_
  refine k_callV (wc := [(rt, .inr (1, [.int (nI 8000), .ref a_t, .int (nI kt)])), (a_t, .inl (cI, nt, .inl ft))]) (wr := [(x0, .inr (4, [.ref ro, .ref rn, .ref rt, .ref rr, .ref o, .ref g, .ref z, .int (nI nbs), .int (nI nwd)]))]) (As := [.int x]) (n := 1) (st := []) (q0 := 0) X (c_get l D cI cB rt a_t 8000 kt nt ft x (hkt) (hnt) (by omega)) rfl rfl ml_X4_107 im_X1_get se_X1_get ini_X1 co_X1_get (by decide +kernel) rfl ⟨Nat.le_of_ble_eq_true rfl, Nat.le_of_ble_eq_true rfl⟩ (⟨by (try dsimp only); omega, by (try dsimp only); omega⟩) (Nat.le_of_ble_eq_true rfl) [0, 1] [2] rfl rfl rfl (by decide) (by decide) (by decide) rfl dX4_at_16 (fun v_16 u_16 hu_16 => ?_)
  obtain ⟨rfl, rfl⟩ := hu_16
  refine k_to (ws' := [(x0, .inr (4, [.ref ro, .ref rn, .ref rt, .ref rr, .ref o, .ref g, .ref z, .int (nI nbs), .int (nI nwd)])), (rt, .inr (1, [.int (nI 8000), .ref a_t, .int (nI kt)])), (a_t, .inl (cI, nt, .inl ft))]) (st' := [.int (rGet ft kt x)]) rfl rfl ?_
  exact k_iret (u := [(x0, .inr (4, [.ref ro, .ref rn, .ref rt, .ref rr, .ref o, .ref g, .ref z, .int (nI nbs), .int (nI nwd)])), (rt, .inr (1, [.int (nI 8000), .ref a_t, .int (nI kt)])), (a_t, .inl (cI, nt, .inl ft))]) X hr [0, 1, 2] (by decide) rfl rfl (⟨rfl, rfl⟩) (by (try dsimp only); omega) (by (try dsimp only); omega) dX4_at_19
set_option maxHeartbeats 4000000 in
set_option maxRecDepth 100000 in
theorem c_size_2 (l : Launch) (D : va_G) (cI cB : ClassId) (x0 : Nat) (ro : Nat) (rn : Nat) (rt : Nat) (rr : Nat) (o : Nat) (g : Nat) (z : Nat) (nbs : Nat) (nwd : Nat) (a_t : Nat) (kt : Nat)  : kC l yX4_size cX4_size 3 (some .int) 1 21 (0) (0) D cI cB [.ref x0, .int 2] [(x0, .inr (4, [.ref ro, .ref rn, .ref rt, .ref rr, .ref o, .ref g, .ref z, .int (nI nbs), .int (nI nwd)])), (rt, .inr (1, [.int (nI 8000), .ref a_t, .int (nI kt)]))] (fun (vV : Option Value) (uU : va_W) => vV = some (.int (nI kt)) ∧ uU = [(x0, .inr (4, [.ref ro, .ref rn, .ref rt, .ref rr, .ref o, .ref g, .ref z, .int (nI nbs), .int (nI nwd)])), (rt, .inr (1, [.int (nI 8000), .ref a_t, .int (nI kt)]))]) := by
  refine k_entry (lv0 := [(0, .ref x0), (1, .int 2)]) (by decide) (Nat.le_of_ble_eq_true rfl) rfl ?_
  intro zp ze zs zm zb zt zc zA X hr hin
  refine k_aload_n X dX4_size_0 rfl 0 rfl ?_
  refine k_iload_n X dX4_size_1 rfl 1 rfl ?_
  refine k_callV (wc := [(x0, .inr (4, [.ref ro, .ref rn, .ref rt, .ref rr, .ref o, .ref g, .ref z, .int (nI nbs), .int (nI nwd)]))]) (wr := [(rt, .inr (1, [.int (nI 8000), .ref a_t, .int (nI kt)]))]) (As := [.int 2]) (n := 1) (st := []) (q0 := 0) X (c_rowOf_2 l D cI cB x0 ro rn rt rr o g z nbs nwd ) rfl rfl ml_X4_104 im_X4_rowOf se_X4_rowOf ini_X4 co_X4_rowOf (by decide +kernel) rfl ⟨Nat.le_of_ble_eq_true rfl, Nat.le_of_ble_eq_true rfl⟩ (⟨by (try dsimp only); omega, by (try dsimp only); omega⟩) (Nat.le_of_ble_eq_true rfl) [0] [1] rfl rfl rfl (by decide) (by decide) (by decide) rfl dX4_size_2 (fun v_2 u_2 hu_2 => ?_)
  obtain ⟨rfl, rfl⟩ := hu_2
  refine k_to (ws' := [(rt, .inr (1, [.int (nI 8000), .ref a_t, .int (nI kt)])), (x0, .inr (4, [.ref ro, .ref rn, .ref rt, .ref rr, .ref o, .ref g, .ref z, .int (nI nbs), .int (nI nwd)]))]) (st' := [.ref rt]) rfl rfl ?_
  refine k_astore_n (lv' := [(2, .ref rt), (0, .ref x0), (1, .int 2)]) X dX4_size_5 rfl (by decide) rfl ?_
  refine k_aload_n X dX4_size_6 rfl 0 rfl ?_
  refine k_ifnonnull (tgt := 14) X dX4_size_7 (by decide) ?_
  refine k_aload_n X dX4_size_14 rfl 0 rfl ?_
  refine k_callV (wc := [(rt, .inr (1, [.int (nI 8000), .ref a_t, .int (nI kt)]))]) (wr := [(x0, .inr (4, [.ref ro, .ref rn, .ref rt, .ref rr, .ref o, .ref g, .ref z, .int (nI nbs), .int (nI nwd)]))]) (As := []) (n := 0) (st := []) (q0 := 0) X (c_length l D cI cB rt a_t 8000 kt ) rfl rfl ml_X4_69 im_X1_length se_X1_length ini_X1 co_X1_length (by decide +kernel) rfl ⟨Nat.le_of_ble_eq_true rfl, Nat.le_of_ble_eq_true rfl⟩ (⟨by (try dsimp only); omega, by (try dsimp only); omega⟩) (Nat.le_of_ble_eq_true rfl) [0] [1] rfl rfl rfl (by decide) (by decide) (by decide) rfl dX4_size_15 (fun v_15 u_15 hu_15 => ?_)
  obtain ⟨rfl, rfl⟩ := hu_15
  refine k_to (ws' := [(x0, .inr (4, [.ref ro, .ref rn, .ref rt, .ref rr, .ref o, .ref g, .ref z, .int (nI nbs), .int (nI nwd)])), (rt, .inr (1, [.int (nI 8000), .ref a_t, .int (nI kt)]))]) (st' := [.int (nI kt)]) rfl rfl ?_
  exact k_iret (u := [(x0, .inr (4, [.ref ro, .ref rn, .ref rt, .ref rr, .ref o, .ref g, .ref z, .int (nI nbs), .int (nI nwd)])), (rt, .inr (1, [.int (nI 8000), .ref a_t, .int (nI kt)]))]) X hr [0, 1] (by decide) rfl rfl (⟨rfl, rfl⟩) (by (try dsimp only); omega) (by (try dsimp only); omega) dX4_size_18
set_option maxHeartbeats 4000000 in
set_option maxRecDepth 100000 in
theorem c_at_3 (l : Launch) (D : va_G) (cI cB : ClassId) (x0 : Nat) (ro : Nat) (rn : Nat) (rt : Nat) (rr : Nat) (o : Nat) (g : Nat) (z : Nat) (nbs : Nat) (nwd : Nat) (ar : Nat) (nr : Nat) (fr : Nat → Int32) (kr : Nat) (x : Int32) (hkr : kr ≤ nr) (hnr : nr ≤ 2000) (h1r : 1 ≤ nr) : kC l yX4_at cX4_at 4 (some .int) 1 21 (0) (0) D cI cB [.ref x0, .int 3, .int x] [(x0, .inr (4, [.ref ro, .ref rn, .ref rt, .ref rr, .ref o, .ref g, .ref z, .int (nI nbs), .int (nI nwd)])), (rr, .inr (1, [.int (nI 2000), .ref ar, .int (nI kr)])), (ar, .inl (cI, nr, .inl fr))] (fun (vV : Option Value) (uU : va_W) => vV = some (.int (rGet fr kr x)) ∧ uU = [(x0, .inr (4, [.ref ro, .ref rn, .ref rt, .ref rr, .ref o, .ref g, .ref z, .int (nI nbs), .int (nI nwd)])), (rr, .inr (1, [.int (nI 2000), .ref ar, .int (nI kr)])), (ar, .inl (cI, nr, .inl fr))]) := by
  refine k_entry (lv0 := [(0, .ref x0), (1, .int 3), (2, .int x)]) (by decide) (Nat.le_of_ble_eq_true rfl) rfl ?_
  intro zp ze zs zm zb zt zc zA X hr hin
  refine k_aload_n X dX4_at_0 rfl 0 rfl ?_
  refine k_iload_n X dX4_at_1 rfl 1 rfl ?_
  refine k_callV (wc := [(x0, .inr (4, [.ref ro, .ref rn, .ref rt, .ref rr, .ref o, .ref g, .ref z, .int (nI nbs), .int (nI nwd)]))]) (wr := [(rr, .inr (1, [.int (nI 2000), .ref ar, .int (nI kr)])), (ar, .inl (cI, nr, .inl fr))]) (As := [.int 3]) (n := 1) (st := []) (q0 := 0) X (c_rowOf_3 l D cI cB x0 ro rn rt rr o g z nbs nwd ) rfl rfl ml_X4_104 im_X4_rowOf se_X4_rowOf ini_X4 co_X4_rowOf (by decide +kernel) rfl ⟨Nat.le_of_ble_eq_true rfl, Nat.le_of_ble_eq_true rfl⟩ (⟨by (try dsimp only); omega, by (try dsimp only); omega⟩) (Nat.le_of_ble_eq_true rfl) [0] [1, 2] rfl rfl rfl (by decide) (by decide) (by decide) rfl dX4_at_2 (fun v_2 u_2 hu_2 => ?_)
  obtain ⟨rfl, rfl⟩ := hu_2
  refine k_to (ws' := [(rr, .inr (1, [.int (nI 2000), .ref ar, .int (nI kr)])), (ar, .inl (cI, nr, .inl fr)), (x0, .inr (4, [.ref ro, .ref rn, .ref rt, .ref rr, .ref o, .ref g, .ref z, .int (nI nbs), .int (nI nwd)]))]) (st' := [.ref rr]) rfl rfl ?_
  refine k_astore_n (lv' := [(3, .ref rr), (0, .ref x0), (1, .int 3), (2, .int x)]) X dX4_at_5 rfl (by decide) rfl ?_
  refine k_aload_n X dX4_at_6 rfl 0 rfl ?_
  refine k_ifnonnull (tgt := 14) X dX4_at_7 (by decide) ?_
  refine k_aload_n X dX4_at_14 rfl 0 rfl ?_
  refine k_iload_n X dX4_at_15 rfl 3 rfl ?_
  refine k_callV (wc := [(rr, .inr (1, [.int (nI 2000), .ref ar, .int (nI kr)])), (ar, .inl (cI, nr, .inl fr))]) (wr := [(x0, .inr (4, [.ref ro, .ref rn, .ref rt, .ref rr, .ref o, .ref g, .ref z, .int (nI nbs), .int (nI nwd)]))]) (As := [.int x]) (n := 1) (st := []) (q0 := 0) X (c_get l D cI cB rr ar 2000 kr nr fr x (hkr) (hnr) (by omega)) rfl rfl ml_X4_107 im_X1_get se_X1_get ini_X1 co_X1_get (by decide +kernel) rfl ⟨Nat.le_of_ble_eq_true rfl, Nat.le_of_ble_eq_true rfl⟩ (⟨by (try dsimp only); omega, by (try dsimp only); omega⟩) (Nat.le_of_ble_eq_true rfl) [0, 1] [2] rfl rfl rfl (by decide) (by decide) (by decide) rfl dX4_at_16 (fun v_16 u_16 hu_16 => ?_)
  obtain ⟨rfl, rfl⟩ := hu_16
  refine k_to (ws' := [(x0, .inr (4, [.ref ro, .ref rn, .ref rt, .ref rr, .ref o, .ref g, .ref z, .int (nI nbs), .int (nI nwd)])), (rr, .inr (1, [.int (nI 2000), .ref ar, .int (nI kr)])), (ar, .inl (cI, nr, .inl fr))]) (st' := [.int (rGet fr kr x)]) rfl rfl ?_
  exact k_iret (u := [(x0, .inr (4, [.ref ro, .ref rn, .ref rt, .ref rr, .ref o, .ref g, .ref z, .int (nI nbs), .int (nI nwd)])), (rr, .inr (1, [.int (nI 2000), .ref ar, .int (nI kr)])), (ar, .inl (cI, nr, .inl fr))]) X hr [0, 1, 2] (by decide) rfl rfl (⟨rfl, rfl⟩) (by (try dsimp only); omega) (by (try dsimp only); omega) dX4_at_19
set_option maxHeartbeats 4000000 in
set_option maxRecDepth 100000 in
theorem c_size_3 (l : Launch) (D : va_G) (cI cB : ClassId) (x0 : Nat) (ro : Nat) (rn : Nat) (rt : Nat) (rr : Nat) (o : Nat) (g : Nat) (z : Nat) (nbs : Nat) (nwd : Nat) (ar : Nat) (kr : Nat)  : kC l yX4_size cX4_size 3 (some .int) 1 21 (0) (0) D cI cB [.ref x0, .int 3] [(x0, .inr (4, [.ref ro, .ref rn, .ref rt, .ref rr, .ref o, .ref g, .ref z, .int (nI nbs), .int (nI nwd)])), (rr, .inr (1, [.int (nI 2000), .ref ar, .int (nI kr)]))] (fun (vV : Option Value) (uU : va_W) => vV = some (.int (nI kr)) ∧ uU = [(x0, .inr (4, [.ref ro, .ref rn, .ref rt, .ref rr, .ref o, .ref g, .ref z, .int (nI nbs), .int (nI nwd)])), (rr, .inr (1, [.int (nI 2000), .ref ar, .int (nI kr)]))]) := by
  refine k_entry (lv0 := [(0, .ref x0), (1, .int 3)]) (by decide) (Nat.le_of_ble_eq_true rfl) rfl ?_
  intro zp ze zs zm zb zt zc zA X hr hin
  refine k_aload_n X dX4_size_0 rfl 0 rfl ?_
  refine k_iload_n X dX4_size_1 rfl 1 rfl ?_
  refine k_callV (wc := [(x0, .inr (4, [.ref ro, .ref rn, .ref rt, .ref rr, .ref o, .ref g, .ref z, .int (nI nbs), .int (nI nwd)]))]) (wr := [(rr, .inr (1, [.int (nI 2000), .ref ar, .int (nI kr)]))]) (As := [.int 3]) (n := 1) (st := []) (q0 := 0) X (c_rowOf_3 l D cI cB x0 ro rn rt rr o g z nbs nwd ) rfl rfl ml_X4_104 im_X4_rowOf se_X4_rowOf ini_X4 co_X4_rowOf (by decide +kernel) rfl ⟨Nat.le_of_ble_eq_true rfl, Nat.le_of_ble_eq_true rfl⟩ (⟨by (try dsimp only); omega, by (try dsimp only); omega⟩) (Nat.le_of_ble_eq_true rfl) [0] [1] rfl rfl rfl (by decide) (by decide) (by decide) rfl dX4_size_2 (fun v_2 u_2 hu_2 => ?_)
  obtain ⟨rfl, rfl⟩ := hu_2
  refine k_to (ws' := [(rr, .inr (1, [.int (nI 2000), .ref ar, .int (nI kr)])), (x0, .inr (4, [.ref ro, .ref rn, .ref rt, .ref rr, .ref o, .ref g, .ref z, .int (nI nbs), .int (nI nwd)]))]) (st' := [.ref rr]) rfl rfl ?_
  refine k_astore_n (lv' := [(2, .ref rr), (0, .ref x0), (1, .int 3)]) X dX4_size_5 rfl (by decide) rfl ?_
  refine k_aload_n X dX4_size_6 rfl 0 rfl ?_
  refine k_ifnonnull (tgt := 14) X dX4_size_7 (by decide) ?_
  refine k_aload_n X dX4_size_14 rfl 0 rfl ?_
  refine k_callV (wc := [(rr, .inr (1, [.int (nI 2000), .ref ar, .int (nI kr)]))]) (wr := [(x0, .inr (4, [.ref ro, .ref rn, .ref rt, .ref rr, .ref o, .ref g, .ref z, .int (nI nbs), .int (nI nwd)]))]) (As := []) (n := 0) (st := []) (q0 := 0) X (c_length l D cI cB rr ar 2000 kr ) rfl rfl ml_X4_69 im_X1_length se_X1_length ini_X1 co_X1_length (by decide +kernel) rfl ⟨Nat.le_of_ble_eq_true rfl, Nat.le_of_ble_eq_true rfl⟩ (⟨by (try dsimp only); omega, by (try dsimp only); omega⟩) (Nat.le_of_ble_eq_true rfl) [0] [1] rfl rfl rfl (by decide) (by decide) (by decide) rfl dX4_size_15 (fun v_15 u_15 hu_15 => ?_)
  obtain ⟨rfl, rfl⟩ := hu_15
  refine k_to (ws' := [(x0, .inr (4, [.ref ro, .ref rn, .ref rt, .ref rr, .ref o, .ref g, .ref z, .int (nI nbs), .int (nI nwd)])), (rr, .inr (1, [.int (nI 2000), .ref ar, .int (nI kr)]))]) (st' := [.int (nI kr)]) rfl rfl ?_
  exact k_iret (u := [(x0, .inr (4, [.ref ro, .ref rn, .ref rt, .ref rr, .ref o, .ref g, .ref z, .int (nI nbs), .int (nI nwd)])), (rr, .inr (1, [.int (nI 2000), .ref ar, .int (nI kr)]))]) X hr [0, 1] (by decide) rfl rfl (⟨rfl, rfl⟩) (by (try dsimp only); omega) (by (try dsimp only); omega) dX4_size_18
set_option maxHeartbeats 4000000 in
set_option maxRecDepth 100000 in
theorem c_at_f (l : Launch) (D : va_G) (cI cB : ClassId) (x0 : Nat) (ro : Nat) (rn : Nat) (rt : Nat) (rr : Nat) (o : Nat) (g : Nat) (z : Nat) (nbs : Nat) (nwd : Nat) (wh : Int32) (x : Int32) (hwh : wh.toInt < 0 ∨ 3 < wh.toInt) : kC l yX4_at cX4_at 4 (some .int) 1 21 (0) (0) D cI cB [.ref x0, .int wh, .int x] [(x0, .inr (4, [.ref ro, .ref rn, .ref rt, .ref rr, .ref o, .ref g, .ref z, .int (nI nbs), .int (nI nwd)]))] (fun (vV : Option Value) (uU : va_W) => vV = some (.int (-1)) ∧ uU = [(x0, .inr (4, [.ref ro, .ref rn, .ref rt, .ref rr, .ref o, .ref g, .ref z, .int (nI nbs), .int (nI nwd)]))]) := by
  refine k_entry (lv0 := [(0, .ref x0), (1, .int wh), (2, .int x)]) (by decide) (Nat.le_of_ble_eq_true rfl) rfl ?_
  intro zp ze zs zm zb zt zc zA X hr hin
  refine k_aload_n X dX4_at_0 rfl 0 rfl ?_
  refine k_iload_n X dX4_at_1 rfl 1 rfl ?_
  refine k_callV (wc := [(x0, .inr (4, [.ref ro, .ref rn, .ref rt, .ref rr, .ref o, .ref g, .ref z, .int (nI nbs), .int (nI nwd)]))]) (wr := []) (As := [.int wh]) (n := 1) (st := []) (q0 := 0) X (c_rowOf_f l D cI cB x0 ro rn rt rr o g z nbs nwd wh (hwh)) rfl rfl ml_X4_104 im_X4_rowOf se_X4_rowOf ini_X4 co_X4_rowOf (by decide +kernel) rfl ⟨Nat.le_of_ble_eq_true rfl, Nat.le_of_ble_eq_true rfl⟩ (⟨by (try dsimp only); omega, by (try dsimp only); omega⟩) (Nat.le_of_ble_eq_true rfl) [0] [] rfl rfl rfl (by decide) (by decide) (by decide) rfl dX4_at_2 (fun v_2 u_2 hu_2 => ?_)
  obtain ⟨rfl, rfl⟩ := hu_2
  refine k_to (ws' := [(x0, .inr (4, [.ref ro, .ref rn, .ref rt, .ref rr, .ref o, .ref g, .ref z, .int (nI nbs), .int (nI nwd)]))]) (st' := [.null]) rfl rfl ?_
  refine k_astore_nN (lv' := [(3, .null), (0, .ref x0), (1, .int wh), (2, .int x)]) X dX4_at_5 rfl (by decide) rfl ?_
  refine k_aload_nN X dX4_at_6 rfl 0 rfl ?_
  refine k_ifnonnullN X dX4_at_7 ?_
  refine k_iconst (v := -1) X dX4_at_10 (by decide) ?_
  refine k_goto (tgt := 19) X dX4_at_11 (by decide) ?_
  exact k_iret (u := [(x0, .inr (4, [.ref ro, .ref rn, .ref rt, .ref rr, .ref o, .ref g, .ref z, .int (nI nbs), .int (nI nwd)]))]) X hr [0] (by decide) rfl rfl (⟨rfl, rfl⟩) (by (try dsimp only); omega) (by (try dsimp only); omega) dX4_at_19
set_option maxHeartbeats 4000000 in
set_option maxRecDepth 100000 in
theorem c_size_f (l : Launch) (D : va_G) (cI cB : ClassId) (x0 : Nat) (ro : Nat) (rn : Nat) (rt : Nat) (rr : Nat) (o : Nat) (g : Nat) (z : Nat) (nbs : Nat) (nwd : Nat) (wh : Int32) (hwh : wh.toInt < 0 ∨ 3 < wh.toInt) : kC l yX4_size cX4_size 3 (some .int) 1 21 (0) (0) D cI cB [.ref x0, .int wh] [(x0, .inr (4, [.ref ro, .ref rn, .ref rt, .ref rr, .ref o, .ref g, .ref z, .int (nI nbs), .int (nI nwd)]))] (fun (vV : Option Value) (uU : va_W) => vV = some (.int (-1)) ∧ uU = [(x0, .inr (4, [.ref ro, .ref rn, .ref rt, .ref rr, .ref o, .ref g, .ref z, .int (nI nbs), .int (nI nwd)]))]) := by
  refine k_entry (lv0 := [(0, .ref x0), (1, .int wh)]) (by decide) (Nat.le_of_ble_eq_true rfl) rfl ?_
  intro zp ze zs zm zb zt zc zA X hr hin
  refine k_aload_n X dX4_size_0 rfl 0 rfl ?_
  refine k_iload_n X dX4_size_1 rfl 1 rfl ?_
  refine k_callV (wc := [(x0, .inr (4, [.ref ro, .ref rn, .ref rt, .ref rr, .ref o, .ref g, .ref z, .int (nI nbs), .int (nI nwd)]))]) (wr := []) (As := [.int wh]) (n := 1) (st := []) (q0 := 0) X (c_rowOf_f l D cI cB x0 ro rn rt rr o g z nbs nwd wh (hwh)) rfl rfl ml_X4_104 im_X4_rowOf se_X4_rowOf ini_X4 co_X4_rowOf (by decide +kernel) rfl ⟨Nat.le_of_ble_eq_true rfl, Nat.le_of_ble_eq_true rfl⟩ (⟨by (try dsimp only); omega, by (try dsimp only); omega⟩) (Nat.le_of_ble_eq_true rfl) [0] [] rfl rfl rfl (by decide) (by decide) (by decide) rfl dX4_size_2 (fun v_2 u_2 hu_2 => ?_)
  obtain ⟨rfl, rfl⟩ := hu_2
  refine k_to (ws' := [(x0, .inr (4, [.ref ro, .ref rn, .ref rt, .ref rr, .ref o, .ref g, .ref z, .int (nI nbs), .int (nI nwd)]))]) (st' := [.null]) rfl rfl ?_
  refine k_astore_nN (lv' := [(2, .null), (0, .ref x0), (1, .int wh)]) X dX4_size_5 rfl (by decide) rfl ?_
  refine k_aload_nN X dX4_size_6 rfl 0 rfl ?_
  refine k_ifnonnullN X dX4_size_7 ?_
  refine k_iconst (v := -1) X dX4_size_10 (by decide) ?_
  refine k_goto (tgt := 18) X dX4_size_11 (by decide) ?_
  exact k_iret (u := [(x0, .inr (4, [.ref ro, .ref rn, .ref rt, .ref rr, .ref o, .ref g, .ref z, .int (nI nbs), .int (nI nwd)]))]) X hr [0] (by decide) rfl rfl (⟨rfl, rfl⟩) (by (try dsimp only); omega) (by (try dsimp only); omega) dX4_size_18
set_option maxHeartbeats 4000000 in
set_option maxRecDepth 100000 in
theorem c_change (l : Launch) (D : va_G) (cI cB : ClassId) (x0 : Nat) (ro : Nat) (rn : Nat) (rt : Nat) (rr : Nat) (o : Nat) (g : Nat) (z : Nat) (nbs : Nat) (nwd : Nat) (a_t : Nat) (nt : Nat) (ft : Nat → Int32) (kt : Nat) (x : Int32) (b : Int32) (hkt : kt ≤ nt) (hnt : nt ≤ 8000) (h1t : 1 ≤ nt) : kC l yX4_change cX4_change 3 (some .boolean) 2 42 (0) (0) D cI cB [.ref x0, .int x, .int b] [(x0, .inr (4, [.ref ro, .ref rn, .ref rt, .ref rr, .ref o, .ref g, .ref z, .int (nI nbs), .int (nI nwd)])), (rt, .inr (1, [.int (nI 8000), .ref a_t, .int (nI kt)])), (a_t, .inl (cI, nt, .inl ft))] (fun (vV : Option Value) (uU : va_W) => vV = some (.int (b2i (decide (rIn x kt ∧ rByte b)))) ∧ uU = [(x0, .inr (4, [.ref ro, .ref rn, .ref rt, .ref rr, .ref o, .ref g, .ref z, .int (nI nbs), .int (nI nwd)])), (rt, .inr (1, [.int (nI 8000), .ref a_t, .int (nI kt)])), (a_t, .inl (cI, nt, .inl (rSet ft kt x b)))]) := by
  refine k_entry (lv0 := [(0, .ref x0), (1, .int x), (2, .int b)]) (by decide) (Nat.le_of_ble_eq_true rfl) rfl ?_
  intro zp ze zs zm zb zt zc zA X hr hin
  refine k_aload_n X dX4_change_0 rfl 0 rfl ?_
  refine k_get (v := .ref rt) X 0 4 2 rfl rfl (by decide) fl_X4_21 in_X4 rfl rfl dX4_change_1 ?_
  refine k_iload_n X dX4_change_4 rfl 1 rfl ?_
  refine k_iload_n X dX4_change_5 rfl 2 rfl ?_
  refine k_callV (wc := [(rt, .inr (1, [.int (nI 8000), .ref a_t, .int (nI kt)])), (a_t, .inl (cI, nt, .inl ft))]) (wr := [(x0, .inr (4, [.ref ro, .ref rn, .ref rt, .ref rr, .ref o, .ref g, .ref z, .int (nI nbs), .int (nI nwd)]))]) (As := [.int x, .int b]) (n := 2) (st := []) (q0 := 0) X (c_set l D cI cB rt a_t 8000 kt nt ft x b (hkt) (hnt) (by omega)) rfl rfl ml_X4_75 im_X1_set se_X1_set ini_X1 co_X1_set (by decide +kernel) rfl ⟨Nat.le_of_ble_eq_true rfl, Nat.le_of_ble_eq_true rfl⟩ (⟨by (try dsimp only); omega, by (try dsimp only); omega⟩) (Nat.le_of_ble_eq_true rfl) [1, 2] [0] rfl rfl rfl (by decide) (by decide) (by decide) rfl dX4_change_6 (fun v_6 u_6 hu_6 => ?_)
  obtain ⟨rfl, rfl⟩ := hu_6
  refine k_to (ws' := [(x0, .inr (4, [.ref ro, .ref rn, .ref rt, .ref rr, .ref o, .ref g, .ref z, .int (nI nbs), .int (nI nwd)])), (rt, .inr (1, [.int (nI 8000), .ref a_t, .int (nI kt)])), (a_t, .inl (cI, nt, .inl (rSet ft kt x b)))]) (st' := [.int (b2i (decide (rIn x kt ∧ rByte b)))]) rfl rfl ?_
  exact k_zret (u := [(x0, .inr (4, [.ref ro, .ref rn, .ref rt, .ref rr, .ref o, .ref g, .ref z, .int (nI nbs), .int (nI nwd)])), (rt, .inr (1, [.int (nI 8000), .ref a_t, .int (nI kt)])), (a_t, .inl (cI, nt, .inl (rSet ft kt x b)))]) X (by first | rfl | exact b2i_nar _ | decide) hr [0, 1, 2] (by decide) rfl rfl (⟨rfl, rfl⟩) (by (try dsimp only); omega) (by (try dsimp only); omega) dX4_change_9
set_option maxHeartbeats 4000000 in
set_option maxRecDepth 100000 in
theorem c_push (l : Launch) (D : va_G) (cI cB : ClassId) (x0 : Nat) (ro : Nat) (rn : Nat) (rt : Nat) (rr : Nat) (o : Nat) (g : Nat) (z : Nat) (nbs : Nat) (nwd : Nat) (a_t : Nat) (nt : Nat) (ft : Nat → Int32) (kt : Nat) (b : Int32) (hkt : kt ≤ nt) (hnt : nt ≤ 8000) (h1t : 1 ≤ nt) (h6 : kt < 6000) (hb : rByte b) : kC l yX4_push cX4_push 2 (some .boolean) 4 104 (rCost 8000 nt (kt + 1)) (rCost 8000 nt (kt + 1)) D cI cB [.ref x0, .int b] [(x0, .inr (4, [.ref ro, .ref rn, .ref rt, .ref rr, .ref o, .ref g, .ref z, .int (nI nbs), .int (nI nwd)])), (rt, .inr (1, [.int (nI 8000), .ref a_t, .int (nI kt)])), (a_t, .inl (cI, nt, .inl ft))] (fun (vV : Option Value) (uU : va_W) => ∃ (a9 : Nat) (f9 : Nat → Int32), vV = some (.int 1) ∧ uU = [(x0, .inr (4, [.ref ro, .ref rn, .ref rt, .ref rr, .ref o, .ref g, .ref z, .int (nI nbs), .int (nI nwd)])), (rt, .inr (1, [.int (nI 8000), .ref a9, .int (nI (kt + 1))])), (a9, .inl (cI, (rCap 8000 nt (kt + 1)), .inl f9))] ∧ (f9 kt = b) ∧ (∀ j, j < kt → f9 j = ft j)) := by
  refine k_entry (lv0 := [(0, .ref x0), (1, .int b)]) (by decide) (Nat.le_of_ble_eq_true rfl) rfl ?_
  intro zp ze zs zm zb zt zc zA X hr hin
  refine k_aload_n X dX4_push_0 rfl 0 rfl ?_
  refine k_get (v := .ref rt) X 0 4 2 rfl rfl (by decide) fl_X4_21 in_X4 rfl rfl dX4_push_1 ?_
  refine k_callV (wc := [(rt, .inr (1, [.int (nI 8000), .ref a_t, .int (nI kt)]))]) (wr := [(x0, .inr (4, [.ref ro, .ref rn, .ref rt, .ref rr, .ref o, .ref g, .ref z, .int (nI nbs), .int (nI nwd)])), (a_t, .inl (cI, nt, .inl ft))]) (As := []) (n := 0) (st := []) (q0 := 0) X (c_length l D cI cB rt a_t 8000 kt ) rfl rfl ml_X4_69 im_X1_length se_X1_length ini_X1 co_X1_length (by decide +kernel) rfl ⟨Nat.le_of_ble_eq_true rfl, Nat.le_of_ble_eq_true rfl⟩ (⟨by (try dsimp only); omega, by (try dsimp only); omega⟩) (Nat.le_of_ble_eq_true rfl) [1] [0, 2] rfl rfl rfl (by decide) (by decide) (by decide) rfl dX4_push_4 (fun v_4 u_4 hu_4 => ?_)
  obtain ⟨rfl, rfl⟩ := hu_4
  refine k_to (ws' := [(x0, .inr (4, [.ref ro, .ref rn, .ref rt, .ref rr, .ref o, .ref g, .ref z, .int (nI nbs), .int (nI nwd)])), (a_t, .inl (cI, nt, .inl ft)), (rt, .inr (1, [.int (nI 8000), .ref a_t, .int (nI kt)]))]) (st' := [.int (nI kt)]) rfl rfl ?_
  refine k_sipush (v := 6000) X dX4_push_7 (by decide) ?_
  refine k_icmp_ge (tgt := 28) (xi := ((kt : Nat) : Int)) (yi := (6000 : Int)) X (nI_toInt (by omega)) (by decide) dX4_push_10 (by decide) (fun c_10 => ?_) (fun c_10 => ?_)
  · exact absurd c_10 (by omega)
  · refine k_aload_n X dX4_push_13 rfl 0 rfl ?_
    refine k_get (v := .ref rt) X 0 4 2 rfl rfl (by decide) fl_X4_21 in_X4 rfl rfl dX4_push_14 ?_
    refine k_iload_n X dX4_push_17 rfl 1 rfl ?_
    refine k_callV (wc := [(rt, .inr (1, [.int (nI 8000), .ref a_t, .int (nI kt)])), (a_t, .inl (cI, nt, .inl ft))]) (wr := [(x0, .inr (4, [.ref ro, .ref rn, .ref rt, .ref rr, .ref o, .ref g, .ref z, .int (nI nbs), .int (nI nwd)]))]) (As := [.int b]) (n := 1) (st := []) (q0 := 0) X (c_add l D cI cB rt a_t 8000 kt nt ft b (hkt) (hnt) (by omega) (h1t) (by omega) (hb)) rfl rfl ml_X4_65 im_X1_add se_X1_add ini_X1 co_X1_add (by decide +kernel) rfl ⟨Nat.le_of_ble_eq_true rfl, Nat.le_of_ble_eq_true rfl⟩ (⟨by (try dsimp only); omega, by (try dsimp only); omega⟩) (Nat.le_of_ble_eq_true rfl) [2, 1] [0] rfl rfl rfl (by decide) (by decide) (by decide) rfl dX4_push_18 (fun v_18 u_18 hu_18 => ?_)
    obtain ⟨a3, f3, rfl, rfl, p3, q3⟩ := hu_18
    refine k_to (ws' := [(x0, .inr (4, [.ref ro, .ref rn, .ref rt, .ref rr, .ref o, .ref g, .ref z, .int (nI nbs), .int (nI nwd)])), (rt, .inr (1, [.int (nI 8000), .ref a3, .int (nI (kt + 1))])), (a3, .inl (cI, rCap 8000 nt (kt + 1), .inl f3))]) (st' := [.int 1]) rfl rfl ?_
    refine k_if_eq (tgt := 28) (xi := (1 : Int)) X (by decide) dX4_push_21 (by decide) (fun c_21 => ?_) (fun c_21 => ?_)
    · exact absurd c_21 (by decide)
    · refine k_iconst (v := 1) X dX4_push_24 (by decide) ?_
      refine k_goto (tgt := 29) X dX4_push_25 (by decide) ?_
      exact k_zret (u := [(x0, .inr (4, [.ref ro, .ref rn, .ref rt, .ref rr, .ref o, .ref g, .ref z, .int (nI nbs), .int (nI nwd)])), (rt, .inr (1, [.int (nI 8000), .ref a3, .int (nI (kt + 1))])), (a3, .inl (cI, rCap 8000 nt (kt + 1), .inl f3))]) X (by first | rfl | exact b2i_nar _ | decide) hr [0, 1, 2] (by decide) rfl rfl (⟨a3, f3, rfl, rfl, p3, q3⟩) (by (try dsimp only); omega) (by (try dsimp only); omega) dX4_push_29
set_option maxHeartbeats 4000000 in
set_option maxRecDepth 100000 in
theorem c_push_f (l : Launch) (D : va_G) (cI cB : ClassId) (x0 : Nat) (ro : Nat) (rn : Nat) (rt : Nat) (rr : Nat) (o : Nat) (g : Nat) (z : Nat) (nbs : Nat) (nwd : Nat) (a_t : Nat) (kt : Nat) (b : Int32) (hk : kt ≤ 8000) (hf : ¬ (kt < 6000 ∧ rByte b)) : kC l yX4_push cX4_push 2 (some .boolean) 2 41 (0) (0) D cI cB [.ref x0, .int b] [(x0, .inr (4, [.ref ro, .ref rn, .ref rt, .ref rr, .ref o, .ref g, .ref z, .int (nI nbs), .int (nI nwd)])), (rt, .inr (1, [.int (nI 8000), .ref a_t, .int (nI kt)]))] (fun (vV : Option Value) (uU : va_W) => vV = some (.int 0) ∧ uU = [(x0, .inr (4, [.ref ro, .ref rn, .ref rt, .ref rr, .ref o, .ref g, .ref z, .int (nI nbs), .int (nI nwd)])), (rt, .inr (1, [.int (nI 8000), .ref a_t, .int (nI kt)]))]) := by
  refine k_entry (lv0 := [(0, .ref x0), (1, .int b)]) (by decide) (Nat.le_of_ble_eq_true rfl) rfl ?_
  intro zp ze zs zm zb zt zc zA X hr hin
  refine k_aload_n X dX4_push_0 rfl 0 rfl ?_
  refine k_get (v := .ref rt) X 0 4 2 rfl rfl (by decide) fl_X4_21 in_X4 rfl rfl dX4_push_1 ?_
  refine k_callV (wc := [(rt, .inr (1, [.int (nI 8000), .ref a_t, .int (nI kt)]))]) (wr := [(x0, .inr (4, [.ref ro, .ref rn, .ref rt, .ref rr, .ref o, .ref g, .ref z, .int (nI nbs), .int (nI nwd)]))]) (As := []) (n := 0) (st := []) (q0 := 0) X (c_length l D cI cB rt a_t 8000 kt ) rfl rfl ml_X4_69 im_X1_length se_X1_length ini_X1 co_X1_length (by decide +kernel) rfl ⟨Nat.le_of_ble_eq_true rfl, Nat.le_of_ble_eq_true rfl⟩ (⟨by (try dsimp only); omega, by (try dsimp only); omega⟩) (Nat.le_of_ble_eq_true rfl) [1] [0] rfl rfl rfl (by decide) (by decide) (by decide) rfl dX4_push_4 (fun v_4 u_4 hu_4 => ?_)
  obtain ⟨rfl, rfl⟩ := hu_4
  refine k_to (ws' := [(x0, .inr (4, [.ref ro, .ref rn, .ref rt, .ref rr, .ref o, .ref g, .ref z, .int (nI nbs), .int (nI nwd)])), (rt, .inr (1, [.int (nI 8000), .ref a_t, .int (nI kt)]))]) (st' := [.int (nI kt)]) rfl rfl ?_
  refine k_sipush (v := 6000) X dX4_push_7 (by decide) ?_
  refine k_icmp_ge (tgt := 28) (xi := ((kt : Nat) : Int)) (yi := (6000 : Int)) X (nI_toInt (by omega)) (by decide) dX4_push_10 (by decide) (fun c_10 => ?_) (fun c_10 => ?_)
  · refine k_iconst (v := 0) X dX4_push_28 (by decide) ?_
    exact k_zret (u := [(x0, .inr (4, [.ref ro, .ref rn, .ref rt, .ref rr, .ref o, .ref g, .ref z, .int (nI nbs), .int (nI nwd)])), (rt, .inr (1, [.int (nI 8000), .ref a_t, .int (nI kt)]))]) X (by first | rfl | exact b2i_nar _ | decide) hr [0, 1] (by decide) rfl rfl (⟨rfl, rfl⟩) (by (try dsimp only); omega) (by (try dsimp only); omega) dX4_push_29
  · refine k_aload_n X dX4_push_13 rfl 0 rfl ?_
    refine k_get (v := .ref rt) X 0 4 2 rfl rfl (by decide) fl_X4_21 in_X4 rfl rfl dX4_push_14 ?_
    refine k_iload_n X dX4_push_17 rfl 1 rfl ?_
    refine k_callV (wc := [(rt, .inr (1, [.int (nI 8000), .ref a_t, .int (nI kt)]))]) (wr := [(x0, .inr (4, [.ref ro, .ref rn, .ref rt, .ref rr, .ref o, .ref g, .ref z, .int (nI nbs), .int (nI nwd)]))]) (As := [.int b]) (n := 1) (st := []) (q0 := 0) X (c_add_f l D cI cB rt a_t 8000 kt b (by omega) (by omega) (by omega)) rfl rfl ml_X4_65 im_X1_add se_X1_add ini_X1 co_X1_add (by decide +kernel) rfl ⟨Nat.le_of_ble_eq_true rfl, Nat.le_of_ble_eq_true rfl⟩ (⟨by (try dsimp only); omega, by (try dsimp only); omega⟩) (Nat.le_of_ble_eq_true rfl) [1] [0] rfl rfl rfl (by decide) (by decide) (by decide) rfl dX4_push_18 (fun v_18 u_18 hu_18 => ?_)
    obtain ⟨rfl, rfl⟩ := hu_18
    refine k_to (ws' := [(x0, .inr (4, [.ref ro, .ref rn, .ref rt, .ref rr, .ref o, .ref g, .ref z, .int (nI nbs), .int (nI nwd)])), (rt, .inr (1, [.int (nI 8000), .ref a_t, .int (nI kt)]))]) (st' := [.int 0]) rfl rfl ?_
    refine k_if_eq (tgt := 28) (xi := (0 : Int)) X (by decide) dX4_push_21 (by decide) (fun c_21 => ?_) (fun c_21 => ?_)
    · refine k_iconst (v := 0) X dX4_push_28 (by decide) ?_
      exact k_zret (u := [(x0, .inr (4, [.ref ro, .ref rn, .ref rt, .ref rr, .ref o, .ref g, .ref z, .int (nI nbs), .int (nI nwd)])), (rt, .inr (1, [.int (nI 8000), .ref a_t, .int (nI kt)]))]) X (by first | rfl | exact b2i_nar _ | decide) hr [0, 1] (by decide) rfl rfl (⟨rfl, rfl⟩) (by (try dsimp only); omega) (by (try dsimp only); omega) dX4_push_29
    · exact absurd c_21 (by decide)
set_option maxHeartbeats 4000000 in
set_option maxRecDepth 100000 in
theorem c_keep (l : Launch) (D : va_G) (cI cB : ClassId) (x0 : Nat) (ro : Nat) (rn : Nat) (rt : Nat) (rr : Nat) (o : Nat) (g : Nat) (z : Nat) (nbs : Nat) (nwd : Nat) (a_t : Nat) (kt : Nat) (x : Int32) (hk : kt ≤ 8000) : kC l yX4_keep cX4_keep 2 (some .boolean) 1 21 (0) (0) D cI cB [.ref x0, .int x] [(x0, .inr (4, [.ref ro, .ref rn, .ref rt, .ref rr, .ref o, .ref g, .ref z, .int (nI nbs), .int (nI nwd)])), (rt, .inr (1, [.int (nI 8000), .ref a_t, .int (nI kt)]))] (fun (vV : Option Value) (uU : va_W) => vV = some (.int (b2i (decide (0 ≤ x.toInt ∧ x.toInt ≤ kt)))) ∧ uU = [(x0, .inr (4, [.ref ro, .ref rn, .ref rt, .ref rr, .ref o, .ref g, .ref z, .int (nI nbs), .int (nI nwd)])), (rt, .inr (1, [.int (nI 8000), .ref a_t, .int (nI (if 0 ≤ x.toInt ∧ x.toInt ≤ kt then x.toNatClampNeg else kt))]))]) := by
  refine k_entry (lv0 := [(0, .ref x0), (1, .int x)]) (by decide) (Nat.le_of_ble_eq_true rfl) rfl ?_
  intro zp ze zs zm zb zt zc zA X hr hin
  refine k_aload_n X dX4_keep_0 rfl 0 rfl ?_
  refine k_get (v := .ref rt) X 0 4 2 rfl rfl (by decide) fl_X4_21 in_X4 rfl rfl dX4_keep_1 ?_
  refine k_iload_n X dX4_keep_4 rfl 1 rfl ?_
  refine k_callV (wc := [(rt, .inr (1, [.int (nI 8000), .ref a_t, .int (nI kt)]))]) (wr := [(x0, .inr (4, [.ref ro, .ref rn, .ref rt, .ref rr, .ref o, .ref g, .ref z, .int (nI nbs), .int (nI nwd)]))]) (As := [.int x]) (n := 1) (st := []) (q0 := 0) X (c_shorten l D cI cB rt a_t 8000 kt x (hk)) rfl rfl ml_X4_72 im_X1_shorten se_X1_shorten ini_X1 co_X1_shorten (by decide +kernel) rfl ⟨Nat.le_of_ble_eq_true rfl, Nat.le_of_ble_eq_true rfl⟩ (⟨by (try dsimp only); omega, by (try dsimp only); omega⟩) (Nat.le_of_ble_eq_true rfl) [1] [0] rfl rfl rfl (by decide) (by decide) (by decide) rfl dX4_keep_5 (fun v_5 u_5 hu_5 => ?_)
  obtain ⟨rfl, rfl⟩ := hu_5
  refine k_to (ws' := [(x0, .inr (4, [.ref ro, .ref rn, .ref rt, .ref rr, .ref o, .ref g, .ref z, .int (nI nbs), .int (nI nwd)])), (rt, .inr (1, [.int (nI 8000), .ref a_t, .int (nI (if 0 ≤ x.toInt ∧ x.toInt ≤ kt then x.toNatClampNeg else kt))]))]) (st' := [.int (b2i (decide (0 ≤ x.toInt ∧ x.toInt ≤ kt)))]) rfl rfl ?_
  exact k_zret (u := [(x0, .inr (4, [.ref ro, .ref rn, .ref rt, .ref rr, .ref o, .ref g, .ref z, .int (nI nbs), .int (nI nwd)])), (rt, .inr (1, [.int (nI 8000), .ref a_t, .int (nI (if 0 ≤ x.toInt ∧ x.toInt ≤ kt then x.toNatClampNeg else kt))]))]) X (by first | rfl | exact b2i_nar _ | decide) hr [0, 1] (by decide) rfl rfl (⟨rfl, rfl⟩) (by (try dsimp only); omega) (by (try dsimp only); omega) dX4_keep_8
set_option maxHeartbeats 4000000 in
set_option maxRecDepth 100000 in
theorem c_sumAt_0 (l : Launch) (D : va_G) (cI cB : ClassId) (x0 : Nat) (ro : Nat) (rn : Nat) (rt : Nat) (rr : Nat) (o : Nat) (g : Nat) (z : Nat) (nbs : Nat) (nwd : Nat) (ao : Nat) (no : Nat) (fo : Nat → Int32) (ko : Nat) (x : Nat) (y : Nat) (hko : ko ≤ no) (hno : no ≤ 2000) (h1o : 1 ≤ no) (hxy : x + y ≤ ko) : kC l yX4_sumAt cX4_sumAt 5 (some .int) 2 47 (0) (0) D cI cB [.ref x0, .int 0, .int (nI x), .int (nI y)] [(x0, .inr (4, [.ref ro, .ref rn, .ref rt, .ref rr, .ref o, .ref g, .ref z, .int (nI nbs), .int (nI nwd)])), (ro, .inr (1, [.int (nI 2000), .ref ao, .int (nI ko)])), (ao, .inl (cI, no, .inl fo))] (fun (vV : Option Value) (uU : va_W) => vV = some (.int (sSum fo x y)) ∧ uU = [(x0, .inr (4, [.ref ro, .ref rn, .ref rt, .ref rr, .ref o, .ref g, .ref z, .int (nI nbs), .int (nI nwd)])), (ro, .inr (1, [.int (nI 2000), .ref ao, .int (nI ko)])), (ao, .inl (cI, no, .inl fo))]) := by
  refine k_entry (lv0 := [(0, .ref x0), (1, .int 0), (2, .int (nI x)), (3, .int (nI y))]) (by decide) (Nat.le_of_ble_eq_true rfl) rfl ?_
  intro zp ze zs zm zb zt zc zA X hr hin
  refine k_aload_n X dX4_sumAt_0 rfl 0 rfl ?_
  refine k_iload_n X dX4_sumAt_1 rfl 1 rfl ?_
  refine k_callV (wc := [(x0, .inr (4, [.ref ro, .ref rn, .ref rt, .ref rr, .ref o, .ref g, .ref z, .int (nI nbs), .int (nI nwd)]))]) (wr := [(ro, .inr (1, [.int (nI 2000), .ref ao, .int (nI ko)])), (ao, .inl (cI, no, .inl fo))]) (As := [.int 0]) (n := 1) (st := []) (q0 := 0) X (c_fileOf_0 l D cI cB x0 ro rn rt rr o g z nbs nwd ) rfl rfl ml_X4_57 im_X4_fileOf se_X4_fileOf ini_X4 co_X4_fileOf (by decide +kernel) rfl ⟨Nat.le_of_ble_eq_true rfl, Nat.le_of_ble_eq_true rfl⟩ (⟨by (try dsimp only); omega, by (try dsimp only); omega⟩) (Nat.le_of_ble_eq_true rfl) [0] [1, 2] rfl rfl rfl (by decide) (by decide) (by decide) rfl dX4_sumAt_2 (fun v_2 u_2 hu_2 => ?_)
  obtain ⟨rfl, rfl⟩ := hu_2
  refine k_to (ws' := [(ro, .inr (1, [.int (nI 2000), .ref ao, .int (nI ko)])), (ao, .inl (cI, no, .inl fo)), (x0, .inr (4, [.ref ro, .ref rn, .ref rt, .ref rr, .ref o, .ref g, .ref z, .int (nI nbs), .int (nI nwd)]))]) (st' := [.ref ro]) rfl rfl ?_
  refine k_astore (lv' := [(4, .ref ro), (0, .ref x0), (1, .int 0), (2, .int (nI x)), (3, .int (nI y))]) X dX4_sumAt_5 (by decide) rfl ?_
  refine k_aload X dX4_sumAt_7 0 rfl ?_
  refine k_ifnonnull (tgt := 16) X dX4_sumAt_9 (by decide) ?_
  refine k_aload X dX4_sumAt_16 0 rfl ?_
  refine k_iload_n X dX4_sumAt_18 rfl 3 rfl ?_
  refine k_iload_n X dX4_sumAt_19 rfl 4 rfl ?_
  refine k_callV (wc := [(ro, .inr (1, [.int (nI 2000), .ref ao, .int (nI ko)])), (ao, .inl (cI, no, .inl fo))]) (wr := [(x0, .inr (4, [.ref ro, .ref rn, .ref rt, .ref rr, .ref o, .ref g, .ref z, .int (nI nbs), .int (nI nwd)]))]) (As := [.int (nI x), .int (nI y)]) (n := 2) (st := []) (q0 := 0) X (c_sumFrom l D cI cB ro ao 2000 ko no fo x y (hko) (hno) (by omega) (hxy)) rfl rfl ml_X4_110 im_X1_sumFrom se_X1_sumFrom ini_X1 co_X1_sumFrom (by decide +kernel) rfl ⟨Nat.le_of_ble_eq_true rfl, Nat.le_of_ble_eq_true rfl⟩ (⟨by (try dsimp only); omega, by (try dsimp only); omega⟩) (Nat.le_of_ble_eq_true rfl) [0, 1] [2] rfl rfl rfl (by decide) (by decide) (by decide) rfl dX4_sumAt_20 (fun v_20 u_20 hu_20 => ?_)
  obtain ⟨rfl, rfl⟩ := hu_20
  refine k_to (ws' := [(x0, .inr (4, [.ref ro, .ref rn, .ref rt, .ref rr, .ref o, .ref g, .ref z, .int (nI nbs), .int (nI nwd)])), (ro, .inr (1, [.int (nI 2000), .ref ao, .int (nI ko)])), (ao, .inl (cI, no, .inl fo))]) (st' := [.int (sSum fo x y)]) rfl rfl ?_
  exact k_iret (u := [(x0, .inr (4, [.ref ro, .ref rn, .ref rt, .ref rr, .ref o, .ref g, .ref z, .int (nI nbs), .int (nI nwd)])), (ro, .inr (1, [.int (nI 2000), .ref ao, .int (nI ko)])), (ao, .inl (cI, no, .inl fo))]) X hr [0, 1, 2] (by decide) rfl rfl (⟨rfl, rfl⟩) (by (try dsimp only); omega) (by (try dsimp only); omega) dX4_sumAt_23
set_option maxHeartbeats 4000000 in
set_option maxRecDepth 100000 in
theorem c_sumAt_0f (l : Launch) (D : va_G) (cI cB : ClassId) (x0 : Nat) (ro : Nat) (rn : Nat) (rt : Nat) (rr : Nat) (o : Nat) (g : Nat) (z : Nat) (nbs : Nat) (nwd : Nat) (ao : Nat) (ko : Nat) (x : Int32) (y : Int32) (hk : ko ≤ 2000) (hxy : ¬ rHolds x y ko) : kC l yX4_sumAt cX4_sumAt 5 (some .int) 2 47 (0) (0) D cI cB [.ref x0, .int 0, .int x, .int y] [(x0, .inr (4, [.ref ro, .ref rn, .ref rt, .ref rr, .ref o, .ref g, .ref z, .int (nI nbs), .int (nI nwd)])), (ro, .inr (1, [.int (nI 2000), .ref ao, .int (nI ko)]))] (fun (vV : Option Value) (uU : va_W) => vV = some (.int 0) ∧ uU = [(x0, .inr (4, [.ref ro, .ref rn, .ref rt, .ref rr, .ref o, .ref g, .ref z, .int (nI nbs), .int (nI nwd)])), (ro, .inr (1, [.int (nI 2000), .ref ao, .int (nI ko)]))]) := by
  refine k_entry (lv0 := [(0, .ref x0), (1, .int 0), (2, .int x), (3, .int y)]) (by decide) (Nat.le_of_ble_eq_true rfl) rfl ?_
  intro zp ze zs zm zb zt zc zA X hr hin
  refine k_aload_n X dX4_sumAt_0 rfl 0 rfl ?_
  refine k_iload_n X dX4_sumAt_1 rfl 1 rfl ?_
  refine k_callV (wc := [(x0, .inr (4, [.ref ro, .ref rn, .ref rt, .ref rr, .ref o, .ref g, .ref z, .int (nI nbs), .int (nI nwd)]))]) (wr := [(ro, .inr (1, [.int (nI 2000), .ref ao, .int (nI ko)]))]) (As := [.int 0]) (n := 1) (st := []) (q0 := 0) X (c_fileOf_0 l D cI cB x0 ro rn rt rr o g z nbs nwd ) rfl rfl ml_X4_57 im_X4_fileOf se_X4_fileOf ini_X4 co_X4_fileOf (by decide +kernel) rfl ⟨Nat.le_of_ble_eq_true rfl, Nat.le_of_ble_eq_true rfl⟩ (⟨by (try dsimp only); omega, by (try dsimp only); omega⟩) (Nat.le_of_ble_eq_true rfl) [0] [1] rfl rfl rfl (by decide) (by decide) (by decide) rfl dX4_sumAt_2 (fun v_2 u_2 hu_2 => ?_)
  obtain ⟨rfl, rfl⟩ := hu_2
  refine k_to (ws' := [(ro, .inr (1, [.int (nI 2000), .ref ao, .int (nI ko)])), (x0, .inr (4, [.ref ro, .ref rn, .ref rt, .ref rr, .ref o, .ref g, .ref z, .int (nI nbs), .int (nI nwd)]))]) (st' := [.ref ro]) rfl rfl ?_
  refine k_astore (lv' := [(4, .ref ro), (0, .ref x0), (1, .int 0), (2, .int x), (3, .int y)]) X dX4_sumAt_5 (by decide) rfl ?_
  refine k_aload X dX4_sumAt_7 0 rfl ?_
  refine k_ifnonnull (tgt := 16) X dX4_sumAt_9 (by decide) ?_
  refine k_aload X dX4_sumAt_16 0 rfl ?_
  refine k_iload_n X dX4_sumAt_18 rfl 3 rfl ?_
  refine k_iload_n X dX4_sumAt_19 rfl 4 rfl ?_
  refine k_callV (wc := [(ro, .inr (1, [.int (nI 2000), .ref ao, .int (nI ko)]))]) (wr := [(x0, .inr (4, [.ref ro, .ref rn, .ref rt, .ref rr, .ref o, .ref g, .ref z, .int (nI nbs), .int (nI nwd)]))]) (As := [.int x, .int y]) (n := 2) (st := []) (q0 := 0) X (c_sumFrom_f l D cI cB ro ao 2000 ko x y (by omega) (hxy)) rfl rfl ml_X4_110 im_X1_sumFrom se_X1_sumFrom ini_X1 co_X1_sumFrom (by decide +kernel) rfl ⟨Nat.le_of_ble_eq_true rfl, Nat.le_of_ble_eq_true rfl⟩ (⟨by (try dsimp only); omega, by (try dsimp only); omega⟩) (Nat.le_of_ble_eq_true rfl) [0] [1] rfl rfl rfl (by decide) (by decide) (by decide) rfl dX4_sumAt_20 (fun v_20 u_20 hu_20 => ?_)
  obtain ⟨rfl, rfl⟩ := hu_20
  refine k_to (ws' := [(x0, .inr (4, [.ref ro, .ref rn, .ref rt, .ref rr, .ref o, .ref g, .ref z, .int (nI nbs), .int (nI nwd)])), (ro, .inr (1, [.int (nI 2000), .ref ao, .int (nI ko)]))]) (st' := [.int 0]) rfl rfl ?_
  exact k_iret (u := [(x0, .inr (4, [.ref ro, .ref rn, .ref rt, .ref rr, .ref o, .ref g, .ref z, .int (nI nbs), .int (nI nwd)])), (ro, .inr (1, [.int (nI 2000), .ref ao, .int (nI ko)]))]) X hr [0, 1] (by decide) rfl rfl (⟨rfl, rfl⟩) (by (try dsimp only); omega) (by (try dsimp only); omega) dX4_sumAt_23
set_option maxHeartbeats 4000000 in
set_option maxRecDepth 100000 in
theorem c_md5_0 (l : Launch) (D : va_G) (cI cB : ClassId) (x0 : Nat) (ro : Nat) (rn : Nat) (rt : Nat) (rr : Nat) (o : Nat) (g : Nat) (z : Nat) (nbs : Nat) (nwd : Nat) (ao : Nat) (no : Nat) (fo : Nat → Int32) (ko : Nat) (aw : Nat) (ah : Nat) (w : Nat → Int32) (h : Nat → Int32) (q : Nat) (hko : ko ≤ no) (hno : no ≤ 2000) (h1o : 1 ≤ no) (hk2 : ko ≤ 2000) (hq : q < 16) : kC l yX4_md5 cX4_md5 4 (some .int) 3 76 (0) (0) D cI cB [.ref x0, .int 0, .int (nI q)] [(x0, .inr (4, [.ref ro, .ref rn, .ref rt, .ref rr, .ref o, .ref g, .ref z, .int (nI nbs), .int (nI nwd)])), (ro, .inr (1, [.int (nI 2000), .ref ao, .int (nI ko)])), (ao, .inl (cI, no, .inl fo)), (o, .inr (0, [.ref aw, .ref ah])), (aw, .inl (cI, 16, .inl w)), (ah, .inl (cI, 4, .inl h))] (fun (vV : Option Value) (uU : va_W) => ∃ (w9 : Nat → Int32) (h9 : Nat → Int32), vV = some (.int (dByte (mDig fo 0 ko) q)) ∧ uU = [(x0, .inr (4, [.ref ro, .ref rn, .ref rt, .ref rr, .ref o, .ref g, .ref z, .int (nI nbs), .int (nI nwd)])), (ro, .inr (1, [.int (nI 2000), .ref ao, .int (nI ko)])), (ao, .inl (cI, no, .inl fo)), (o, .inr (0, [.ref aw, .ref ah])), (aw, .inl (cI, 16, .inl w9)), (ah, .inl (cI, 4, .inl h9))]) := by
  refine k_entry (lv0 := [(0, .ref x0), (1, .int 0), (2, .int (nI q))]) (by decide) (Nat.le_of_ble_eq_true rfl) rfl ?_
  intro zp ze zs zm zb zt zc zA X hr hin
  refine k_aload_n X dX4_md5_0 rfl 0 rfl ?_
  refine k_iload_n X dX4_md5_1 rfl 1 rfl ?_
  refine k_callV (wc := [(x0, .inr (4, [.ref ro, .ref rn, .ref rt, .ref rr, .ref o, .ref g, .ref z, .int (nI nbs), .int (nI nwd)]))]) (wr := [(ro, .inr (1, [.int (nI 2000), .ref ao, .int (nI ko)])), (ao, .inl (cI, no, .inl fo)), (o, .inr (0, [.ref aw, .ref ah])), (aw, .inl (cI, 16, .inl w)), (ah, .inl (cI, 4, .inl h))]) (As := [.int 0]) (n := 1) (st := []) (q0 := 0) X (c_fileOf_0 l D cI cB x0 ro rn rt rr o g z nbs nwd ) rfl rfl ml_X4_57 im_X4_fileOf se_X4_fileOf ini_X4 co_X4_fileOf (by decide +kernel) rfl ⟨Nat.le_of_ble_eq_true rfl, Nat.le_of_ble_eq_true rfl⟩ (⟨by (try dsimp only); omega, by (try dsimp only); omega⟩) (Nat.le_of_ble_eq_true rfl) [0] [1, 2, 3, 4, 5] rfl rfl rfl (by decide) (by decide) (by decide) rfl dX4_md5_2 (fun v_2 u_2 hu_2 => ?_)
  obtain ⟨rfl, rfl⟩ := hu_2
  refine k_to (ws' := [(ro, .inr (1, [.int (nI 2000), .ref ao, .int (nI ko)])), (ao, .inl (cI, no, .inl fo)), (o, .inr (0, [.ref aw, .ref ah])), (aw, .inl (cI, 16, .inl w)), (ah, .inl (cI, 4, .inl h)), (x0, .inr (4, [.ref ro, .ref rn, .ref rt, .ref rr, .ref o, .ref g, .ref z, .int (nI nbs), .int (nI nwd)]))]) (st' := [.ref ro]) rfl rfl ?_
  refine k_astore_n (lv' := [(3, .ref ro), (0, .ref x0), (1, .int 0), (2, .int (nI q))]) X dX4_md5_5 rfl (by decide) rfl ?_
  refine k_aload_n X dX4_md5_6 rfl 0 rfl ?_
  refine k_ifnull X dX4_md5_7 ?_
  refine k_iload_n X dX4_md5_10 rfl 3 rfl ?_
  refine k_if_lt (tgt := 20) (xi := ((q : Nat) : Int)) X (nI_toInt (by omega)) dX4_md5_11 (by decide) (fun c_11 => ?_) (fun c_11 => ?_)
  · exact absurd c_11 (by omega)
  · refine k_iload_n X dX4_md5_14 rfl 3 rfl ?_
    refine k_bipush (v := 16) X dX4_md5_15 (by decide) ?_
    refine k_icmp_lt (tgt := 22) (xi := ((q : Nat) : Int)) (yi := (16 : Int)) X (nI_toInt (by omega)) (by decide) dX4_md5_17 (by decide) (fun c_17 => ?_) (fun c_17 => ?_)
    · refine k_aload_n X dX4_md5_22 rfl 1 rfl ?_
      refine k_get (v := .ref o) X 5 4 4 rfl rfl (by decide) fl_X4_30 in_X4 rfl rfl dX4_md5_23 ?_
      refine k_aload_n X dX4_md5_26 rfl 0 rfl ?_
      refine k_iconst (v := 0) X dX4_md5_27 (by decide) ?_
      refine k_aload_n X dX4_md5_28 rfl 0 rfl ?_
      refine k_callV (wc := [(ro, .inr (1, [.int (nI 2000), .ref ao, .int (nI ko)]))]) (wr := [(ao, .inl (cI, no, .inl fo)), (o, .inr (0, [.ref aw, .ref ah])), (aw, .inl (cI, 16, .inl w)), (ah, .inl (cI, 4, .inl h)), (x0, .inr (4, [.ref ro, .ref rn, .ref rt, .ref rr, .ref o, .ref g, .ref z, .int (nI nbs), .int (nI nwd)]))]) (As := []) (n := 0) (st := [.int 0, .ref ro, .ref o]) (q0 := 0) X (c_length l D cI cB ro ao 2000 ko ) rfl rfl ml_X4_69 im_X1_length se_X1_length ini_X1 co_X1_length (by decide +kernel) rfl ⟨Nat.le_of_ble_eq_true rfl, Nat.le_of_ble_eq_true rfl⟩ (⟨by (try dsimp only); omega, by (try dsimp only); omega⟩) (Nat.le_of_ble_eq_true rfl) [0] [1, 2, 3, 4, 5] rfl rfl rfl (by decide) (by decide) (by decide) rfl dX4_md5_29 (fun v_29 u_29 hu_29 => ?_)
      obtain ⟨rfl, rfl⟩ := hu_29
      refine k_to (ws' := [(ao, .inl (cI, no, .inl fo)), (o, .inr (0, [.ref aw, .ref ah])), (aw, .inl (cI, 16, .inl w)), (ah, .inl (cI, 4, .inl h)), (x0, .inr (4, [.ref ro, .ref rn, .ref rt, .ref rr, .ref o, .ref g, .ref z, .int (nI nbs), .int (nI nwd)])), (ro, .inr (1, [.int (nI 2000), .ref ao, .int (nI ko)]))]) (st' := [.int (nI ko), .int 0, .ref ro, .ref o]) rfl rfl ?_
      refine k_callV (wc := [(o, .inr (0, [.ref aw, .ref ah])), (aw, .inl (cI, 16, .inl w)), (ah, .inl (cI, 4, .inl h)), (ro, .inr (1, [.int (nI 2000), .ref ao, .int (nI ko)])), (ao, .inl (cI, no, .inl fo))]) (wr := [(x0, .inr (4, [.ref ro, .ref rn, .ref rt, .ref rr, .ref o, .ref g, .ref z, .int (nI nbs), .int (nI nwd)]))]) (As := [.ref ro, .int 0, .int (nI ko)]) (n := 3) (st := []) (q0 := 0) X (c_take l D cI cB o aw ah w h ro ao 2000 ko no fo 0 ko (hko) (hno) (by omega) (by omega) (hk2)) rfl rfl ml_X4_113 im_X0_take se_X0_take ini_X0 co_X0_take (by decide +kernel) rfl ⟨Nat.le_of_ble_eq_true rfl, Nat.le_of_ble_eq_true rfl⟩ (⟨by (try dsimp only); omega, by (try dsimp only); omega⟩) (Nat.le_of_ble_eq_true rfl) [1, 2, 3, 5, 0] [4] rfl rfl rfl (by decide) (by decide) (by decide) rfl dX4_md5_32 (fun v_32 u_32 hu_32 => ?_)
      obtain ⟨w3, h3, rfl, rfl, hh3⟩ := hu_32
      refine k_to (ws' := [(x0, .inr (4, [.ref ro, .ref rn, .ref rt, .ref rr, .ref o, .ref g, .ref z, .int (nI nbs), .int (nI nwd)])), (o, .inr (0, [.ref aw, .ref ah])), (aw, .inl (cI, 16, .inl w3)), (ah, .inl (cI, 4, .inl h3)), (ro, .inr (1, [.int (nI 2000), .ref ao, .int (nI ko)])), (ao, .inl (cI, no, .inl fo))]) (st' := []) rfl rfl ?_
      refine k_aload_n X dX4_md5_35 rfl 1 rfl ?_
      refine k_get (v := .ref o) X 0 4 4 rfl rfl (by decide) fl_X4_30 in_X4 rfl rfl dX4_md5_36 ?_
      refine k_iload_n X dX4_md5_39 rfl 3 rfl ?_
      refine k_callV (wc := [(o, .inr (0, [.ref aw, .ref ah])), (ah, .inl (cI, 4, .inl h3))]) (wr := [(x0, .inr (4, [.ref ro, .ref rn, .ref rt, .ref rr, .ref o, .ref g, .ref z, .int (nI nbs), .int (nI nwd)])), (aw, .inl (cI, 16, .inl w3)), (ro, .inr (1, [.int (nI 2000), .ref ao, .int (nI ko)])), (ao, .inl (cI, no, .inl fo))]) (As := [.int (nI q)]) (n := 1) (st := []) (q0 := 0) X (c_digestByte l D cI cB o aw ah h3 q (hq)) rfl rfl ml_X4_117 im_X0_digestByte se_X0_digestByte ini_X0 co_X0_digestByte (by decide +kernel) rfl ⟨Nat.le_of_ble_eq_true rfl, Nat.le_of_ble_eq_true rfl⟩ (⟨by (try dsimp only); omega, by (try dsimp only); omega⟩) (Nat.le_of_ble_eq_true rfl) [1, 3] [0, 2, 4, 5] rfl rfl rfl (by decide) (by decide) (by decide) rfl dX4_md5_40 (fun v_40 u_40 hu_40 => ?_)
      obtain ⟨rfl, rfl⟩ := hu_40
      refine k_to (ws' := [(x0, .inr (4, [.ref ro, .ref rn, .ref rt, .ref rr, .ref o, .ref g, .ref z, .int (nI nbs), .int (nI nwd)])), (aw, .inl (cI, 16, .inl w3)), (ro, .inr (1, [.int (nI 2000), .ref ao, .int (nI ko)])), (ao, .inl (cI, no, .inl fo)), (o, .inr (0, [.ref aw, .ref ah])), (ah, .inl (cI, 4, .inl h3))]) (st' := [.int (dByte h3 q)]) rfl rfl ?_
      refine k_as (y := dByte (mDig fo 0 ko) q) (dByte_congr hh3 hq) ?_
      exact k_iret (u := [(x0, .inr (4, [.ref ro, .ref rn, .ref rt, .ref rr, .ref o, .ref g, .ref z, .int (nI nbs), .int (nI nwd)])), (ro, .inr (1, [.int (nI 2000), .ref ao, .int (nI ko)])), (ao, .inl (cI, no, .inl fo)), (o, .inr (0, [.ref aw, .ref ah])), (aw, .inl (cI, 16, .inl w3)), (ah, .inl (cI, 4, .inl h3))]) X hr [0, 2, 3, 4, 1, 5] (by decide) rfl rfl (⟨w3, h3, rfl, rfl⟩) (by (try dsimp only); omega) (by (try dsimp only); omega) dX4_md5_43
    · exact absurd c_17 (by omega)
set_option maxHeartbeats 4000000 in
set_option maxRecDepth 100000 in
theorem c_md5_0f (l : Launch) (D : va_G) (cI cB : ClassId) (x0 : Nat) (ro : Nat) (rn : Nat) (rt : Nat) (rr : Nat) (o : Nat) (g : Nat) (z : Nat) (nbs : Nat) (nwd : Nat) (q : Int32) (hq : ¬ (0 ≤ q.toInt ∧ q.toInt < 16)) : kC l yX4_md5 cX4_md5 4 (some .int) 2 42 (0) (0) D cI cB [.ref x0, .int 0, .int q] [(x0, .inr (4, [.ref ro, .ref rn, .ref rt, .ref rr, .ref o, .ref g, .ref z, .int (nI nbs), .int (nI nwd)]))] (fun (vV : Option Value) (uU : va_W) => vV = some (.int (-1)) ∧ uU = [(x0, .inr (4, [.ref ro, .ref rn, .ref rt, .ref rr, .ref o, .ref g, .ref z, .int (nI nbs), .int (nI nwd)]))]) := by
  refine k_entry (lv0 := [(0, .ref x0), (1, .int 0), (2, .int q)]) (by decide) (Nat.le_of_ble_eq_true rfl) rfl ?_
  intro zp ze zs zm zb zt zc zA X hr hin
  refine k_aload_n X dX4_md5_0 rfl 0 rfl ?_
  refine k_iload_n X dX4_md5_1 rfl 1 rfl ?_
  refine k_callV (wc := [(x0, .inr (4, [.ref ro, .ref rn, .ref rt, .ref rr, .ref o, .ref g, .ref z, .int (nI nbs), .int (nI nwd)]))]) (wr := []) (As := [.int 0]) (n := 1) (st := []) (q0 := 0) X (c_fileOf_0 l D cI cB x0 ro rn rt rr o g z nbs nwd ) rfl rfl ml_X4_57 im_X4_fileOf se_X4_fileOf ini_X4 co_X4_fileOf (by decide +kernel) rfl ⟨Nat.le_of_ble_eq_true rfl, Nat.le_of_ble_eq_true rfl⟩ (⟨by (try dsimp only); omega, by (try dsimp only); omega⟩) (Nat.le_of_ble_eq_true rfl) [0] [] rfl rfl rfl (by decide) (by decide) (by decide) rfl dX4_md5_2 (fun v_2 u_2 hu_2 => ?_)
  obtain ⟨rfl, rfl⟩ := hu_2
  refine k_to (ws' := [(x0, .inr (4, [.ref ro, .ref rn, .ref rt, .ref rr, .ref o, .ref g, .ref z, .int (nI nbs), .int (nI nwd)]))]) (st' := [.ref ro]) rfl rfl ?_
  refine k_astore_n (lv' := [(3, .ref ro), (0, .ref x0), (1, .int 0), (2, .int q)]) X dX4_md5_5 rfl (by decide) rfl ?_
  refine k_aload_n X dX4_md5_6 rfl 0 rfl ?_
  refine k_ifnull X dX4_md5_7 ?_
  refine k_iload_n X dX4_md5_10 rfl 3 rfl ?_
  refine k_if_lt (tgt := 20) (xi := q.toInt) X (rfl) dX4_md5_11 (by decide) (fun c_11 => ?_) (fun c_11 => ?_)
  · refine k_iconst (v := -1) X dX4_md5_20 (by decide) ?_
    exact k_iret (u := [(x0, .inr (4, [.ref ro, .ref rn, .ref rt, .ref rr, .ref o, .ref g, .ref z, .int (nI nbs), .int (nI nwd)]))]) X hr [0] (by decide) rfl rfl (⟨rfl, rfl⟩) (by (try dsimp only); omega) (by (try dsimp only); omega) dX4_md5_21
  · refine k_iload_n X dX4_md5_14 rfl 3 rfl ?_
    refine k_bipush (v := 16) X dX4_md5_15 (by decide) ?_
    refine k_icmp_lt (tgt := 22) (xi := q.toInt) (yi := (16 : Int)) X (rfl) (by decide) dX4_md5_17 (by decide) (fun c_17 => ?_) (fun c_17 => ?_)
    · exact absurd c_17 (by omega)
    · refine k_iconst (v := -1) X dX4_md5_20 (by decide) ?_
      exact k_iret (u := [(x0, .inr (4, [.ref ro, .ref rn, .ref rt, .ref rr, .ref o, .ref g, .ref z, .int (nI nbs), .int (nI nwd)]))]) X hr [0] (by decide) rfl rfl (⟨rfl, rfl⟩) (by (try dsimp only); omega) (by (try dsimp only); omega) dX4_md5_21
set_option maxHeartbeats 4000000 in
set_option maxRecDepth 100000 in
theorem c_sumAt_1 (l : Launch) (D : va_G) (cI cB : ClassId) (x0 : Nat) (ro : Nat) (rn : Nat) (rt : Nat) (rr : Nat) (o : Nat) (g : Nat) (z : Nat) (nbs : Nat) (nwd : Nat) (an : Nat) (nn : Nat) (fw : Nat → Int32) (kn : Nat) (x : Nat) (y : Nat) (hkn : kn ≤ nn) (hnn : nn ≤ 2000) (h1n : 1 ≤ nn) (hxy : x + y ≤ kn) : kC l yX4_sumAt cX4_sumAt 5 (some .int) 2 47 (0) (0) D cI cB [.ref x0, .int 1, .int (nI x), .int (nI y)] [(x0, .inr (4, [.ref ro, .ref rn, .ref rt, .ref rr, .ref o, .ref g, .ref z, .int (nI nbs), .int (nI nwd)])), (rn, .inr (1, [.int (nI 2000), .ref an, .int (nI kn)])), (an, .inl (cI, nn, .inl fw))] (fun (vV : Option Value) (uU : va_W) => vV = some (.int (sSum fw x y)) ∧ uU = [(x0, .inr (4, [.ref ro, .ref rn, .ref rt, .ref rr, .ref o, .ref g, .ref z, .int (nI nbs), .int (nI nwd)])), (rn, .inr (1, [.int (nI 2000), .ref an, .int (nI kn)])), (an, .inl (cI, nn, .inl fw))]) := by
  refine k_entry (lv0 := [(0, .ref x0), (1, .int 1), (2, .int (nI x)), (3, .int (nI y))]) (by decide) (Nat.le_of_ble_eq_true rfl) rfl ?_
  intro zp ze zs zm zb zt zc zA X hr hin
  refine k_aload_n X dX4_sumAt_0 rfl 0 rfl ?_
  refine k_iload_n X dX4_sumAt_1 rfl 1 rfl ?_
  refine k_callV (wc := [(x0, .inr (4, [.ref ro, .ref rn, .ref rt, .ref rr, .ref o, .ref g, .ref z, .int (nI nbs), .int (nI nwd)]))]) (wr := [(rn, .inr (1, [.int (nI 2000), .ref an, .int (nI kn)])), (an, .inl (cI, nn, .inl fw))]) (As := [.int 1]) (n := 1) (st := []) (q0 := 0) X (c_fileOf_1 l D cI cB x0 ro rn rt rr o g z nbs nwd ) rfl rfl ml_X4_57 im_X4_fileOf se_X4_fileOf ini_X4 co_X4_fileOf (by decide +kernel) rfl ⟨Nat.le_of_ble_eq_true rfl, Nat.le_of_ble_eq_true rfl⟩ (⟨by (try dsimp only); omega, by (try dsimp only); omega⟩) (Nat.le_of_ble_eq_true rfl) [0] [1, 2] rfl rfl rfl (by decide) (by decide) (by decide) rfl dX4_sumAt_2 (fun v_2 u_2 hu_2 => ?_)
  obtain ⟨rfl, rfl⟩ := hu_2
  refine k_to (ws' := [(rn, .inr (1, [.int (nI 2000), .ref an, .int (nI kn)])), (an, .inl (cI, nn, .inl fw)), (x0, .inr (4, [.ref ro, .ref rn, .ref rt, .ref rr, .ref o, .ref g, .ref z, .int (nI nbs), .int (nI nwd)]))]) (st' := [.ref rn]) rfl rfl ?_
  refine k_astore (lv' := [(4, .ref rn), (0, .ref x0), (1, .int 1), (2, .int (nI x)), (3, .int (nI y))]) X dX4_sumAt_5 (by decide) rfl ?_
  refine k_aload X dX4_sumAt_7 0 rfl ?_
  refine k_ifnonnull (tgt := 16) X dX4_sumAt_9 (by decide) ?_
  refine k_aload X dX4_sumAt_16 0 rfl ?_
  refine k_iload_n X dX4_sumAt_18 rfl 3 rfl ?_
  refine k_iload_n X dX4_sumAt_19 rfl 4 rfl ?_
  refine k_callV (wc := [(rn, .inr (1, [.int (nI 2000), .ref an, .int (nI kn)])), (an, .inl (cI, nn, .inl fw))]) (wr := [(x0, .inr (4, [.ref ro, .ref rn, .ref rt, .ref rr, .ref o, .ref g, .ref z, .int (nI nbs), .int (nI nwd)]))]) (As := [.int (nI x), .int (nI y)]) (n := 2) (st := []) (q0 := 0) X (c_sumFrom l D cI cB rn an 2000 kn nn fw x y (hkn) (hnn) (by omega) (hxy)) rfl rfl ml_X4_110 im_X1_sumFrom se_X1_sumFrom ini_X1 co_X1_sumFrom (by decide +kernel) rfl ⟨Nat.le_of_ble_eq_true rfl, Nat.le_of_ble_eq_true rfl⟩ (⟨by (try dsimp only); omega, by (try dsimp only); omega⟩) (Nat.le_of_ble_eq_true rfl) [0, 1] [2] rfl rfl rfl (by decide) (by decide) (by decide) rfl dX4_sumAt_20 (fun v_20 u_20 hu_20 => ?_)
  obtain ⟨rfl, rfl⟩ := hu_20
  refine k_to (ws' := [(x0, .inr (4, [.ref ro, .ref rn, .ref rt, .ref rr, .ref o, .ref g, .ref z, .int (nI nbs), .int (nI nwd)])), (rn, .inr (1, [.int (nI 2000), .ref an, .int (nI kn)])), (an, .inl (cI, nn, .inl fw))]) (st' := [.int (sSum fw x y)]) rfl rfl ?_
  exact k_iret (u := [(x0, .inr (4, [.ref ro, .ref rn, .ref rt, .ref rr, .ref o, .ref g, .ref z, .int (nI nbs), .int (nI nwd)])), (rn, .inr (1, [.int (nI 2000), .ref an, .int (nI kn)])), (an, .inl (cI, nn, .inl fw))]) X hr [0, 1, 2] (by decide) rfl rfl (⟨rfl, rfl⟩) (by (try dsimp only); omega) (by (try dsimp only); omega) dX4_sumAt_23
set_option maxHeartbeats 4000000 in
set_option maxRecDepth 100000 in
theorem c_sumAt_1f (l : Launch) (D : va_G) (cI cB : ClassId) (x0 : Nat) (ro : Nat) (rn : Nat) (rt : Nat) (rr : Nat) (o : Nat) (g : Nat) (z : Nat) (nbs : Nat) (nwd : Nat) (an : Nat) (kn : Nat) (x : Int32) (y : Int32) (hk : kn ≤ 2000) (hxy : ¬ rHolds x y kn) : kC l yX4_sumAt cX4_sumAt 5 (some .int) 2 47 (0) (0) D cI cB [.ref x0, .int 1, .int x, .int y] [(x0, .inr (4, [.ref ro, .ref rn, .ref rt, .ref rr, .ref o, .ref g, .ref z, .int (nI nbs), .int (nI nwd)])), (rn, .inr (1, [.int (nI 2000), .ref an, .int (nI kn)]))] (fun (vV : Option Value) (uU : va_W) => vV = some (.int 0) ∧ uU = [(x0, .inr (4, [.ref ro, .ref rn, .ref rt, .ref rr, .ref o, .ref g, .ref z, .int (nI nbs), .int (nI nwd)])), (rn, .inr (1, [.int (nI 2000), .ref an, .int (nI kn)]))]) := by
  refine k_entry (lv0 := [(0, .ref x0), (1, .int 1), (2, .int x), (3, .int y)]) (by decide) (Nat.le_of_ble_eq_true rfl) rfl ?_
  intro zp ze zs zm zb zt zc zA X hr hin
  refine k_aload_n X dX4_sumAt_0 rfl 0 rfl ?_
  refine k_iload_n X dX4_sumAt_1 rfl 1 rfl ?_
  refine k_callV (wc := [(x0, .inr (4, [.ref ro, .ref rn, .ref rt, .ref rr, .ref o, .ref g, .ref z, .int (nI nbs), .int (nI nwd)]))]) (wr := [(rn, .inr (1, [.int (nI 2000), .ref an, .int (nI kn)]))]) (As := [.int 1]) (n := 1) (st := []) (q0 := 0) X (c_fileOf_1 l D cI cB x0 ro rn rt rr o g z nbs nwd ) rfl rfl ml_X4_57 im_X4_fileOf se_X4_fileOf ini_X4 co_X4_fileOf (by decide +kernel) rfl ⟨Nat.le_of_ble_eq_true rfl, Nat.le_of_ble_eq_true rfl⟩ (⟨by (try dsimp only); omega, by (try dsimp only); omega⟩) (Nat.le_of_ble_eq_true rfl) [0] [1] rfl rfl rfl (by decide) (by decide) (by decide) rfl dX4_sumAt_2 (fun v_2 u_2 hu_2 => ?_)
  obtain ⟨rfl, rfl⟩ := hu_2
  refine k_to (ws' := [(rn, .inr (1, [.int (nI 2000), .ref an, .int (nI kn)])), (x0, .inr (4, [.ref ro, .ref rn, .ref rt, .ref rr, .ref o, .ref g, .ref z, .int (nI nbs), .int (nI nwd)]))]) (st' := [.ref rn]) rfl rfl ?_
  refine k_astore (lv' := [(4, .ref rn), (0, .ref x0), (1, .int 1), (2, .int x), (3, .int y)]) X dX4_sumAt_5 (by decide) rfl ?_
  refine k_aload X dX4_sumAt_7 0 rfl ?_
  refine k_ifnonnull (tgt := 16) X dX4_sumAt_9 (by decide) ?_
  refine k_aload X dX4_sumAt_16 0 rfl ?_
  refine k_iload_n X dX4_sumAt_18 rfl 3 rfl ?_
  refine k_iload_n X dX4_sumAt_19 rfl 4 rfl ?_
  refine k_callV (wc := [(rn, .inr (1, [.int (nI 2000), .ref an, .int (nI kn)]))]) (wr := [(x0, .inr (4, [.ref ro, .ref rn, .ref rt, .ref rr, .ref o, .ref g, .ref z, .int (nI nbs), .int (nI nwd)]))]) (As := [.int x, .int y]) (n := 2) (st := []) (q0 := 0) X (c_sumFrom_f l D cI cB rn an 2000 kn x y (by omega) (hxy)) rfl rfl ml_X4_110 im_X1_sumFrom se_X1_sumFrom ini_X1 co_X1_sumFrom (by decide +kernel) rfl ⟨Nat.le_of_ble_eq_true rfl, Nat.le_of_ble_eq_true rfl⟩ (⟨by (try dsimp only); omega, by (try dsimp only); omega⟩) (Nat.le_of_ble_eq_true rfl) [0] [1] rfl rfl rfl (by decide) (by decide) (by decide) rfl dX4_sumAt_20 (fun v_20 u_20 hu_20 => ?_)
  obtain ⟨rfl, rfl⟩ := hu_20
  refine k_to (ws' := [(x0, .inr (4, [.ref ro, .ref rn, .ref rt, .ref rr, .ref o, .ref g, .ref z, .int (nI nbs), .int (nI nwd)])), (rn, .inr (1, [.int (nI 2000), .ref an, .int (nI kn)]))]) (st' := [.int 0]) rfl rfl ?_
  exact k_iret (u := [(x0, .inr (4, [.ref ro, .ref rn, .ref rt, .ref rr, .ref o, .ref g, .ref z, .int (nI nbs), .int (nI nwd)])), (rn, .inr (1, [.int (nI 2000), .ref an, .int (nI kn)]))]) X hr [0, 1] (by decide) rfl rfl (⟨rfl, rfl⟩) (by (try dsimp only); omega) (by (try dsimp only); omega) dX4_sumAt_23
set_option maxHeartbeats 4000000 in
set_option maxRecDepth 100000 in
theorem c_md5_1 (l : Launch) (D : va_G) (cI cB : ClassId) (x0 : Nat) (ro : Nat) (rn : Nat) (rt : Nat) (rr : Nat) (o : Nat) (g : Nat) (z : Nat) (nbs : Nat) (nwd : Nat) (an : Nat) (nn : Nat) (fw : Nat → Int32) (kn : Nat) (aw : Nat) (ah : Nat) (w : Nat → Int32) (h : Nat → Int32) (q : Nat) (hkn : kn ≤ nn) (hnn : nn ≤ 2000) (h1n : 1 ≤ nn) (hk2 : kn ≤ 2000) (hq : q < 16) : kC l yX4_md5 cX4_md5 4 (some .int) 3 76 (0) (0) D cI cB [.ref x0, .int 1, .int (nI q)] [(x0, .inr (4, [.ref ro, .ref rn, .ref rt, .ref rr, .ref o, .ref g, .ref z, .int (nI nbs), .int (nI nwd)])), (rn, .inr (1, [.int (nI 2000), .ref an, .int (nI kn)])), (an, .inl (cI, nn, .inl fw)), (o, .inr (0, [.ref aw, .ref ah])), (aw, .inl (cI, 16, .inl w)), (ah, .inl (cI, 4, .inl h))] (fun (vV : Option Value) (uU : va_W) => ∃ (w9 : Nat → Int32) (h9 : Nat → Int32), vV = some (.int (dByte (mDig fw 0 kn) q)) ∧ uU = [(x0, .inr (4, [.ref ro, .ref rn, .ref rt, .ref rr, .ref o, .ref g, .ref z, .int (nI nbs), .int (nI nwd)])), (rn, .inr (1, [.int (nI 2000), .ref an, .int (nI kn)])), (an, .inl (cI, nn, .inl fw)), (o, .inr (0, [.ref aw, .ref ah])), (aw, .inl (cI, 16, .inl w9)), (ah, .inl (cI, 4, .inl h9))]) := by
  refine k_entry (lv0 := [(0, .ref x0), (1, .int 1), (2, .int (nI q))]) (by decide) (Nat.le_of_ble_eq_true rfl) rfl ?_
  intro zp ze zs zm zb zt zc zA X hr hin
  refine k_aload_n X dX4_md5_0 rfl 0 rfl ?_
  refine k_iload_n X dX4_md5_1 rfl 1 rfl ?_
  refine k_callV (wc := [(x0, .inr (4, [.ref ro, .ref rn, .ref rt, .ref rr, .ref o, .ref g, .ref z, .int (nI nbs), .int (nI nwd)]))]) (wr := [(rn, .inr (1, [.int (nI 2000), .ref an, .int (nI kn)])), (an, .inl (cI, nn, .inl fw)), (o, .inr (0, [.ref aw, .ref ah])), (aw, .inl (cI, 16, .inl w)), (ah, .inl (cI, 4, .inl h))]) (As := [.int 1]) (n := 1) (st := []) (q0 := 0) X (c_fileOf_1 l D cI cB x0 ro rn rt rr o g z nbs nwd ) rfl rfl ml_X4_57 im_X4_fileOf se_X4_fileOf ini_X4 co_X4_fileOf (by decide +kernel) rfl ⟨Nat.le_of_ble_eq_true rfl, Nat.le_of_ble_eq_true rfl⟩ (⟨by (try dsimp only); omega, by (try dsimp only); omega⟩) (Nat.le_of_ble_eq_true rfl) [0] [1, 2, 3, 4, 5] rfl rfl rfl (by decide) (by decide) (by decide) rfl dX4_md5_2 (fun v_2 u_2 hu_2 => ?_)
  obtain ⟨rfl, rfl⟩ := hu_2
  refine k_to (ws' := [(rn, .inr (1, [.int (nI 2000), .ref an, .int (nI kn)])), (an, .inl (cI, nn, .inl fw)), (o, .inr (0, [.ref aw, .ref ah])), (aw, .inl (cI, 16, .inl w)), (ah, .inl (cI, 4, .inl h)), (x0, .inr (4, [.ref ro, .ref rn, .ref rt, .ref rr, .ref o, .ref g, .ref z, .int (nI nbs), .int (nI nwd)]))]) (st' := [.ref rn]) rfl rfl ?_
  refine k_astore_n (lv' := [(3, .ref rn), (0, .ref x0), (1, .int 1), (2, .int (nI q))]) X dX4_md5_5 rfl (by decide) rfl ?_
  refine k_aload_n X dX4_md5_6 rfl 0 rfl ?_
  refine k_ifnull X dX4_md5_7 ?_
  refine k_iload_n X dX4_md5_10 rfl 3 rfl ?_
  refine k_if_lt (tgt := 20) (xi := ((q : Nat) : Int)) X (nI_toInt (by omega)) dX4_md5_11 (by decide) (fun c_11 => ?_) (fun c_11 => ?_)
  · exact absurd c_11 (by omega)
  · refine k_iload_n X dX4_md5_14 rfl 3 rfl ?_
    refine k_bipush (v := 16) X dX4_md5_15 (by decide) ?_
    refine k_icmp_lt (tgt := 22) (xi := ((q : Nat) : Int)) (yi := (16 : Int)) X (nI_toInt (by omega)) (by decide) dX4_md5_17 (by decide) (fun c_17 => ?_) (fun c_17 => ?_)
    · refine k_aload_n X dX4_md5_22 rfl 1 rfl ?_
      refine k_get (v := .ref o) X 5 4 4 rfl rfl (by decide) fl_X4_30 in_X4 rfl rfl dX4_md5_23 ?_
      refine k_aload_n X dX4_md5_26 rfl 0 rfl ?_
      refine k_iconst (v := 0) X dX4_md5_27 (by decide) ?_
      refine k_aload_n X dX4_md5_28 rfl 0 rfl ?_
      refine k_callV (wc := [(rn, .inr (1, [.int (nI 2000), .ref an, .int (nI kn)]))]) (wr := [(an, .inl (cI, nn, .inl fw)), (o, .inr (0, [.ref aw, .ref ah])), (aw, .inl (cI, 16, .inl w)), (ah, .inl (cI, 4, .inl h)), (x0, .inr (4, [.ref ro, .ref rn, .ref rt, .ref rr, .ref o, .ref g, .ref z, .int (nI nbs), .int (nI nwd)]))]) (As := []) (n := 0) (st := [.int 0, .ref rn, .ref o]) (q0 := 0) X (c_length l D cI cB rn an 2000 kn ) rfl rfl ml_X4_69 im_X1_length se_X1_length ini_X1 co_X1_length (by decide +kernel) rfl ⟨Nat.le_of_ble_eq_true rfl, Nat.le_of_ble_eq_true rfl⟩ (⟨by (try dsimp only); omega, by (try dsimp only); omega⟩) (Nat.le_of_ble_eq_true rfl) [0] [1, 2, 3, 4, 5] rfl rfl rfl (by decide) (by decide) (by decide) rfl dX4_md5_29 (fun v_29 u_29 hu_29 => ?_)
      obtain ⟨rfl, rfl⟩ := hu_29
      refine k_to (ws' := [(an, .inl (cI, nn, .inl fw)), (o, .inr (0, [.ref aw, .ref ah])), (aw, .inl (cI, 16, .inl w)), (ah, .inl (cI, 4, .inl h)), (x0, .inr (4, [.ref ro, .ref rn, .ref rt, .ref rr, .ref o, .ref g, .ref z, .int (nI nbs), .int (nI nwd)])), (rn, .inr (1, [.int (nI 2000), .ref an, .int (nI kn)]))]) (st' := [.int (nI kn), .int 0, .ref rn, .ref o]) rfl rfl ?_
      refine k_callV (wc := [(o, .inr (0, [.ref aw, .ref ah])), (aw, .inl (cI, 16, .inl w)), (ah, .inl (cI, 4, .inl h)), (rn, .inr (1, [.int (nI 2000), .ref an, .int (nI kn)])), (an, .inl (cI, nn, .inl fw))]) (wr := [(x0, .inr (4, [.ref ro, .ref rn, .ref rt, .ref rr, .ref o, .ref g, .ref z, .int (nI nbs), .int (nI nwd)]))]) (As := [.ref rn, .int 0, .int (nI kn)]) (n := 3) (st := []) (q0 := 0) X (c_take l D cI cB o aw ah w h rn an 2000 kn nn fw 0 kn (hkn) (hnn) (by omega) (by omega) (hk2)) rfl rfl ml_X4_113 im_X0_take se_X0_take ini_X0 co_X0_take (by decide +kernel) rfl ⟨Nat.le_of_ble_eq_true rfl, Nat.le_of_ble_eq_true rfl⟩ (⟨by (try dsimp only); omega, by (try dsimp only); omega⟩) (Nat.le_of_ble_eq_true rfl) [1, 2, 3, 5, 0] [4] rfl rfl rfl (by decide) (by decide) (by decide) rfl dX4_md5_32 (fun v_32 u_32 hu_32 => ?_)
      obtain ⟨w3, h3, rfl, rfl, hh3⟩ := hu_32
      refine k_to (ws' := [(x0, .inr (4, [.ref ro, .ref rn, .ref rt, .ref rr, .ref o, .ref g, .ref z, .int (nI nbs), .int (nI nwd)])), (o, .inr (0, [.ref aw, .ref ah])), (aw, .inl (cI, 16, .inl w3)), (ah, .inl (cI, 4, .inl h3)), (rn, .inr (1, [.int (nI 2000), .ref an, .int (nI kn)])), (an, .inl (cI, nn, .inl fw))]) (st' := []) rfl rfl ?_
      refine k_aload_n X dX4_md5_35 rfl 1 rfl ?_
      refine k_get (v := .ref o) X 0 4 4 rfl rfl (by decide) fl_X4_30 in_X4 rfl rfl dX4_md5_36 ?_
      refine k_iload_n X dX4_md5_39 rfl 3 rfl ?_
      refine k_callV (wc := [(o, .inr (0, [.ref aw, .ref ah])), (ah, .inl (cI, 4, .inl h3))]) (wr := [(x0, .inr (4, [.ref ro, .ref rn, .ref rt, .ref rr, .ref o, .ref g, .ref z, .int (nI nbs), .int (nI nwd)])), (aw, .inl (cI, 16, .inl w3)), (rn, .inr (1, [.int (nI 2000), .ref an, .int (nI kn)])), (an, .inl (cI, nn, .inl fw))]) (As := [.int (nI q)]) (n := 1) (st := []) (q0 := 0) X (c_digestByte l D cI cB o aw ah h3 q (hq)) rfl rfl ml_X4_117 im_X0_digestByte se_X0_digestByte ini_X0 co_X0_digestByte (by decide +kernel) rfl ⟨Nat.le_of_ble_eq_true rfl, Nat.le_of_ble_eq_true rfl⟩ (⟨by (try dsimp only); omega, by (try dsimp only); omega⟩) (Nat.le_of_ble_eq_true rfl) [1, 3] [0, 2, 4, 5] rfl rfl rfl (by decide) (by decide) (by decide) rfl dX4_md5_40 (fun v_40 u_40 hu_40 => ?_)
      obtain ⟨rfl, rfl⟩ := hu_40
      refine k_to (ws' := [(x0, .inr (4, [.ref ro, .ref rn, .ref rt, .ref rr, .ref o, .ref g, .ref z, .int (nI nbs), .int (nI nwd)])), (aw, .inl (cI, 16, .inl w3)), (rn, .inr (1, [.int (nI 2000), .ref an, .int (nI kn)])), (an, .inl (cI, nn, .inl fw)), (o, .inr (0, [.ref aw, .ref ah])), (ah, .inl (cI, 4, .inl h3))]) (st' := [.int (dByte h3 q)]) rfl rfl ?_
      refine k_as (y := dByte (mDig fw 0 kn) q) (dByte_congr hh3 hq) ?_
      exact k_iret (u := [(x0, .inr (4, [.ref ro, .ref rn, .ref rt, .ref rr, .ref o, .ref g, .ref z, .int (nI nbs), .int (nI nwd)])), (rn, .inr (1, [.int (nI 2000), .ref an, .int (nI kn)])), (an, .inl (cI, nn, .inl fw)), (o, .inr (0, [.ref aw, .ref ah])), (aw, .inl (cI, 16, .inl w3)), (ah, .inl (cI, 4, .inl h3))]) X hr [0, 2, 3, 4, 1, 5] (by decide) rfl rfl (⟨w3, h3, rfl, rfl⟩) (by (try dsimp only); omega) (by (try dsimp only); omega) dX4_md5_43
    · exact absurd c_17 (by omega)
set_option maxHeartbeats 4000000 in
set_option maxRecDepth 100000 in
theorem c_md5_1f (l : Launch) (D : va_G) (cI cB : ClassId) (x0 : Nat) (ro : Nat) (rn : Nat) (rt : Nat) (rr : Nat) (o : Nat) (g : Nat) (z : Nat) (nbs : Nat) (nwd : Nat) (q : Int32) (hq : ¬ (0 ≤ q.toInt ∧ q.toInt < 16)) : kC l yX4_md5 cX4_md5 4 (some .int) 2 42 (0) (0) D cI cB [.ref x0, .int 1, .int q] [(x0, .inr (4, [.ref ro, .ref rn, .ref rt, .ref rr, .ref o, .ref g, .ref z, .int (nI nbs), .int (nI nwd)]))] (fun (vV : Option Value) (uU : va_W) => vV = some (.int (-1)) ∧ uU = [(x0, .inr (4, [.ref ro, .ref rn, .ref rt, .ref rr, .ref o, .ref g, .ref z, .int (nI nbs), .int (nI nwd)]))]) := by
  refine k_entry (lv0 := [(0, .ref x0), (1, .int 1), (2, .int q)]) (by decide) (Nat.le_of_ble_eq_true rfl) rfl ?_
  intro zp ze zs zm zb zt zc zA X hr hin
  refine k_aload_n X dX4_md5_0 rfl 0 rfl ?_
  refine k_iload_n X dX4_md5_1 rfl 1 rfl ?_
  refine k_callV (wc := [(x0, .inr (4, [.ref ro, .ref rn, .ref rt, .ref rr, .ref o, .ref g, .ref z, .int (nI nbs), .int (nI nwd)]))]) (wr := []) (As := [.int 1]) (n := 1) (st := []) (q0 := 0) X (c_fileOf_1 l D cI cB x0 ro rn rt rr o g z nbs nwd ) rfl rfl ml_X4_57 im_X4_fileOf se_X4_fileOf ini_X4 co_X4_fileOf (by decide +kernel) rfl ⟨Nat.le_of_ble_eq_true rfl, Nat.le_of_ble_eq_true rfl⟩ (⟨by (try dsimp only); omega, by (try dsimp only); omega⟩) (Nat.le_of_ble_eq_true rfl) [0] [] rfl rfl rfl (by decide) (by decide) (by decide) rfl dX4_md5_2 (fun v_2 u_2 hu_2 => ?_)
  obtain ⟨rfl, rfl⟩ := hu_2
  refine k_to (ws' := [(x0, .inr (4, [.ref ro, .ref rn, .ref rt, .ref rr, .ref o, .ref g, .ref z, .int (nI nbs), .int (nI nwd)]))]) (st' := [.ref rn]) rfl rfl ?_
  refine k_astore_n (lv' := [(3, .ref rn), (0, .ref x0), (1, .int 1), (2, .int q)]) X dX4_md5_5 rfl (by decide) rfl ?_
  refine k_aload_n X dX4_md5_6 rfl 0 rfl ?_
  refine k_ifnull X dX4_md5_7 ?_
  refine k_iload_n X dX4_md5_10 rfl 3 rfl ?_
  refine k_if_lt (tgt := 20) (xi := q.toInt) X (rfl) dX4_md5_11 (by decide) (fun c_11 => ?_) (fun c_11 => ?_)
  · refine k_iconst (v := -1) X dX4_md5_20 (by decide) ?_
    exact k_iret (u := [(x0, .inr (4, [.ref ro, .ref rn, .ref rt, .ref rr, .ref o, .ref g, .ref z, .int (nI nbs), .int (nI nwd)]))]) X hr [0] (by decide) rfl rfl (⟨rfl, rfl⟩) (by (try dsimp only); omega) (by (try dsimp only); omega) dX4_md5_21
  · refine k_iload_n X dX4_md5_14 rfl 3 rfl ?_
    refine k_bipush (v := 16) X dX4_md5_15 (by decide) ?_
    refine k_icmp_lt (tgt := 22) (xi := q.toInt) (yi := (16 : Int)) X (rfl) (by decide) dX4_md5_17 (by decide) (fun c_17 => ?_) (fun c_17 => ?_)
    · exact absurd c_17 (by omega)
    · refine k_iconst (v := -1) X dX4_md5_20 (by decide) ?_
      exact k_iret (u := [(x0, .inr (4, [.ref ro, .ref rn, .ref rt, .ref rr, .ref o, .ref g, .ref z, .int (nI nbs), .int (nI nwd)]))]) X hr [0] (by decide) rfl rfl (⟨rfl, rfl⟩) (by (try dsimp only); omega) (by (try dsimp only); omega) dX4_md5_21
set_option maxHeartbeats 4000000 in
set_option maxRecDepth 100000 in
theorem c_sumAt_f (l : Launch) (D : va_G) (cI cB : ClassId) (x0 : Nat) (ro : Nat) (rn : Nat) (rt : Nat) (rr : Nat) (o : Nat) (g : Nat) (z : Nat) (nbs : Nat) (nwd : Nat) (wh : Int32) (x : Int32) (y : Int32) (hwh : ¬ wh.toInt = 0 ∧ ¬ wh.toInt = 1) : kC l yX4_sumAt cX4_sumAt 5 (some .int) 1 21 (0) (0) D cI cB [.ref x0, .int wh, .int x, .int y] [(x0, .inr (4, [.ref ro, .ref rn, .ref rt, .ref rr, .ref o, .ref g, .ref z, .int (nI nbs), .int (nI nwd)]))] (fun (vV : Option Value) (uU : va_W) => vV = some (.int 0) ∧ uU = [(x0, .inr (4, [.ref ro, .ref rn, .ref rt, .ref rr, .ref o, .ref g, .ref z, .int (nI nbs), .int (nI nwd)]))]) := by
  refine k_entry (lv0 := [(0, .ref x0), (1, .int wh), (2, .int x), (3, .int y)]) (by decide) (Nat.le_of_ble_eq_true rfl) rfl ?_
  intro zp ze zs zm zb zt zc zA X hr hin
  refine k_aload_n X dX4_sumAt_0 rfl 0 rfl ?_
  refine k_iload_n X dX4_sumAt_1 rfl 1 rfl ?_
  refine k_callV (wc := [(x0, .inr (4, [.ref ro, .ref rn, .ref rt, .ref rr, .ref o, .ref g, .ref z, .int (nI nbs), .int (nI nwd)]))]) (wr := []) (As := [.int wh]) (n := 1) (st := []) (q0 := 0) X (c_fileOf_f l D cI cB x0 ro rn rt rr o g z nbs nwd wh (hwh)) rfl rfl ml_X4_57 im_X4_fileOf se_X4_fileOf ini_X4 co_X4_fileOf (by decide +kernel) rfl ⟨Nat.le_of_ble_eq_true rfl, Nat.le_of_ble_eq_true rfl⟩ (⟨by (try dsimp only); omega, by (try dsimp only); omega⟩) (Nat.le_of_ble_eq_true rfl) [0] [] rfl rfl rfl (by decide) (by decide) (by decide) rfl dX4_sumAt_2 (fun v_2 u_2 hu_2 => ?_)
  obtain ⟨rfl, rfl⟩ := hu_2
  refine k_to (ws' := [(x0, .inr (4, [.ref ro, .ref rn, .ref rt, .ref rr, .ref o, .ref g, .ref z, .int (nI nbs), .int (nI nwd)]))]) (st' := [.null]) rfl rfl ?_
  refine k_astoreN (lv' := [(4, .null), (0, .ref x0), (1, .int wh), (2, .int x), (3, .int y)]) X dX4_sumAt_5 (by decide) rfl ?_
  refine k_aloadN X dX4_sumAt_7 0 rfl ?_
  refine k_ifnonnullN X dX4_sumAt_9 ?_
  refine k_iconst (v := 0) X dX4_sumAt_12 (by decide) ?_
  refine k_goto (tgt := 23) X dX4_sumAt_13 (by decide) ?_
  exact k_iret (u := [(x0, .inr (4, [.ref ro, .ref rn, .ref rt, .ref rr, .ref o, .ref g, .ref z, .int (nI nbs), .int (nI nwd)]))]) X hr [0] (by decide) rfl rfl (⟨rfl, rfl⟩) (by (try dsimp only); omega) (by (try dsimp only); omega) dX4_sumAt_23
set_option maxHeartbeats 4000000 in
set_option maxRecDepth 100000 in
theorem c_md5_f (l : Launch) (D : va_G) (cI cB : ClassId) (x0 : Nat) (ro : Nat) (rn : Nat) (rt : Nat) (rr : Nat) (o : Nat) (g : Nat) (z : Nat) (nbs : Nat) (nwd : Nat) (wh : Int32) (q : Int32) (hwh : ¬ wh.toInt = 0 ∧ ¬ wh.toInt = 1) : kC l yX4_md5 cX4_md5 4 (some .int) 1 21 (0) (0) D cI cB [.ref x0, .int wh, .int q] [(x0, .inr (4, [.ref ro, .ref rn, .ref rt, .ref rr, .ref o, .ref g, .ref z, .int (nI nbs), .int (nI nwd)]))] (fun (vV : Option Value) (uU : va_W) => vV = some (.int (-1)) ∧ uU = [(x0, .inr (4, [.ref ro, .ref rn, .ref rt, .ref rr, .ref o, .ref g, .ref z, .int (nI nbs), .int (nI nwd)]))]) := by
  refine k_entry (lv0 := [(0, .ref x0), (1, .int wh), (2, .int q)]) (by decide) (Nat.le_of_ble_eq_true rfl) rfl ?_
  intro zp ze zs zm zb zt zc zA X hr hin
  refine k_aload_n X dX4_md5_0 rfl 0 rfl ?_
  refine k_iload_n X dX4_md5_1 rfl 1 rfl ?_
  refine k_callV (wc := [(x0, .inr (4, [.ref ro, .ref rn, .ref rt, .ref rr, .ref o, .ref g, .ref z, .int (nI nbs), .int (nI nwd)]))]) (wr := []) (As := [.int wh]) (n := 1) (st := []) (q0 := 0) X (c_fileOf_f l D cI cB x0 ro rn rt rr o g z nbs nwd wh (hwh)) rfl rfl ml_X4_57 im_X4_fileOf se_X4_fileOf ini_X4 co_X4_fileOf (by decide +kernel) rfl ⟨Nat.le_of_ble_eq_true rfl, Nat.le_of_ble_eq_true rfl⟩ (⟨by (try dsimp only); omega, by (try dsimp only); omega⟩) (Nat.le_of_ble_eq_true rfl) [0] [] rfl rfl rfl (by decide) (by decide) (by decide) rfl dX4_md5_2 (fun v_2 u_2 hu_2 => ?_)
  obtain ⟨rfl, rfl⟩ := hu_2
  refine k_to (ws' := [(x0, .inr (4, [.ref ro, .ref rn, .ref rt, .ref rr, .ref o, .ref g, .ref z, .int (nI nbs), .int (nI nwd)]))]) (st' := [.null]) rfl rfl ?_
  refine k_astore_nN (lv' := [(3, .null), (0, .ref x0), (1, .int wh), (2, .int q)]) X dX4_md5_5 rfl (by decide) rfl ?_
  refine k_aload_nN X dX4_md5_6 rfl 0 rfl ?_
  refine k_ifnullN (tgt := 20) X dX4_md5_7 (by decide) ?_
  refine k_iconst (v := -1) X dX4_md5_20 (by decide) ?_
  exact k_iret (u := [(x0, .inr (4, [.ref ro, .ref rn, .ref rt, .ref rr, .ref o, .ref g, .ref z, .int (nI nbs), .int (nI nwd)]))]) X hr [0] (by decide) rfl rfl (⟨rfl, rfl⟩) (by (try dsimp only); omega) (by (try dsimp only); omega) dX4_md5_21
set_option maxHeartbeats 4000000 in
set_option maxRecDepth 100000 in
theorem c_same (l : Launch) (D : va_G) (cI cB : ClassId) (x0 : Nat) (ro : Nat) (rn : Nat) (rt : Nat) (rr : Nat) (o : Nat) (g : Nat) (z : Nat) (nbs : Nat) (nwd : Nat) (ar : Nat) (nr : Nat) (fr : Nat → Int32) (kr : Nat) (an : Nat) (nn : Nat) (fw : Nat → Int32) (kn : Nat) (hkr : kr ≤ nr) (hnr : nr ≤ 2000) (h1r : 1 ≤ nr) (hkn : kn ≤ nn) (hnn : nn ≤ 2000) (h1n : 1 ≤ nn) : kC l yX4_same cX4_same 1 (some .boolean) 1 22 (0) (0) D cI cB [.ref x0] [(x0, .inr (4, [.ref ro, .ref rn, .ref rt, .ref rr, .ref o, .ref g, .ref z, .int (nI nbs), .int (nI nwd)])), (rr, .inr (1, [.int (nI 2000), .ref ar, .int (nI kr)])), (ar, .inl (cI, nr, .inl fr)), (rn, .inr (1, [.int (nI 2000), .ref an, .int (nI kn)])), (an, .inl (cI, nn, .inl fw))] (fun (vV : Option Value) (uU : va_W) => ∃ (bb : Bool), vV = some (.int (b2i bb)) ∧ uU = [(x0, .inr (4, [.ref ro, .ref rn, .ref rt, .ref rr, .ref o, .ref g, .ref z, .int (nI nbs), .int (nI nwd)])), (rr, .inr (1, [.int (nI 2000), .ref ar, .int (nI kr)])), (ar, .inl (cI, nr, .inl fr)), (rn, .inr (1, [.int (nI 2000), .ref an, .int (nI kn)])), (an, .inl (cI, nn, .inl fw))] ∧ (bb = true ↔ (kr = kn ∧ ∀ j, j < kr → fr j = fw j))) := by
  refine k_entry (lv0 := [(0, .ref x0)]) (by decide) (Nat.le_of_ble_eq_true rfl) rfl ?_
  intro zp ze zs zm zb zt zc zA X hr hin
  refine k_aload_n X dX4_same_0 rfl 0 rfl ?_
  refine k_get (v := .ref rr) X 0 4 3 rfl rfl (by decide) fl_X4_24 in_X4 rfl rfl dX4_same_1 ?_
  refine k_aload_n X dX4_same_4 rfl 0 rfl ?_
  refine k_get (v := .ref rn) X 0 4 1 rfl rfl (by decide) fl_X4_18 in_X4 rfl rfl dX4_same_5 ?_
  refine k_callV (wc := [(rr, .inr (1, [.int (nI 2000), .ref ar, .int (nI kr)])), (ar, .inl (cI, nr, .inl fr)), (rn, .inr (1, [.int (nI 2000), .ref an, .int (nI kn)])), (an, .inl (cI, nn, .inl fw))]) (wr := [(x0, .inr (4, [.ref ro, .ref rn, .ref rt, .ref rr, .ref o, .ref g, .ref z, .int (nI nbs), .int (nI nwd)]))]) (As := [.ref rn]) (n := 1) (st := []) (q0 := 0) X (c_equalTo l D cI cB rr ar 2000 kr nr fr rn an 2000 kn nn fw (hkr) (hnr) (by omega) (hkn) (by omega)) rfl rfl ml_X4_119 im_X1_equalTo se_X1_equalTo ini_X1 co_X1_equalTo (by decide +kernel) rfl ⟨Nat.le_of_ble_eq_true rfl, Nat.le_of_ble_eq_true rfl⟩ (⟨by (try dsimp only); omega, by (try dsimp only); omega⟩) (Nat.le_of_ble_eq_true rfl) [1, 2, 3, 4] [0] rfl rfl rfl (by decide) (by decide) (by decide) rfl dX4_same_8 (fun v_8 u_8 hu_8 => ?_)
  obtain ⟨bb, rfl, rfl, hbb⟩ := hu_8
  refine k_to (ws' := [(x0, .inr (4, [.ref ro, .ref rn, .ref rt, .ref rr, .ref o, .ref g, .ref z, .int (nI nbs), .int (nI nwd)])), (rr, .inr (1, [.int (nI 2000), .ref ar, .int (nI kr)])), (ar, .inl (cI, nr, .inl fr)), (rn, .inr (1, [.int (nI 2000), .ref an, .int (nI kn)])), (an, .inl (cI, nn, .inl fw))]) (st' := [.int (b2i bb)]) rfl rfl ?_
  exact k_zret (u := [(x0, .inr (4, [.ref ro, .ref rn, .ref rt, .ref rr, .ref o, .ref g, .ref z, .int (nI nbs), .int (nI nwd)])), (rr, .inr (1, [.int (nI 2000), .ref ar, .int (nI kr)])), (ar, .inl (cI, nr, .inl fr)), (rn, .inr (1, [.int (nI 2000), .ref an, .int (nI kn)])), (an, .inl (cI, nn, .inl fw))]) X (by first | rfl | exact b2i_nar _ | decide) hr [0, 1, 2, 3, 4] (by decide) rfl rfl (⟨bb, rfl, rfl, hbb⟩) (by (try dsimp only); omega) (by (try dsimp only); omega) dX4_same_11
set_option maxHeartbeats 4000000 in
set_option maxRecDepth 100000 in
theorem c_count_0 (l : Launch) (D : va_G) (cI cB : ClassId) (x0 : Nat) (ro : Nat) (rn : Nat) (rt : Nat) (rr : Nat) (o : Nat) (g : Nat) (z : Nat) (nbs : Nat) (nwd : Nat) (rf : Nat) (lt : Nat) (rw : Nat) (al : Nat) (i8 : Nat) (i9 : Nat) (la : Int32)  : kC l yX4_count cX4_count 2 (some .int) 1 20 (0) (0) D cI cB [.ref x0, .int 0] [(x0, .inr (4, [.ref ro, .ref rn, .ref rt, .ref rr, .ref o, .ref g, .ref z, .int (nI nbs), .int (nI nwd)])), (z, .inr (3, [.ref rn, .ref rt, .ref g, .ref o, .int (nI rf), .int (nI lt), .int (nI rw), .int (nI al), .int (nI i8), .int (nI i9), .int la]))] (fun (vV : Option Value) (uU : va_W) => vV = some (.int (nI rf)) ∧ uU = [(x0, .inr (4, [.ref ro, .ref rn, .ref rt, .ref rr, .ref o, .ref g, .ref z, .int (nI nbs), .int (nI nwd)])), (z, .inr (3, [.ref rn, .ref rt, .ref g, .ref o, .int (nI rf), .int (nI lt), .int (nI rw), .int (nI al), .int (nI i8), .int (nI i9), .int la]))]) := by
  refine k_entry (lv0 := [(0, .ref x0), (1, .int 0)]) (by decide) (Nat.le_of_ble_eq_true rfl) rfl ?_
  intro zp ze zs zm zb zt zc zA X hr hin
  refine k_iload_n X dX4_count_0 rfl 1 rfl ?_
  refine k_tableIn (off := 43) (tgt := 44) X dX4_count_1 (by decide) (by decide) (by decide) (by decide) ?_
  refine k_aload_n X dX4_count_44 rfl 0 rfl ?_
  refine k_get (v := .ref z) X 0 4 6 rfl rfl (by decide) fl_X4_46 in_X4 rfl rfl dX4_count_45 ?_
  refine k_callV (wc := [(z, .inr (3, [.ref rn, .ref rt, .ref g, .ref o, .int (nI rf), .int (nI lt), .int (nI rw), .int (nI al), .int (nI i8), .int (nI i9), .int la]))]) (wr := [(x0, .inr (4, [.ref ro, .ref rn, .ref rt, .ref rr, .ref o, .ref g, .ref z, .int (nI nbs), .int (nI nwd)]))]) (As := []) (n := 0) (st := []) (q0 := 0) X (c_tel_references l D cI cB z rn rt g o rf lt rw al i8 i9 la ) rfl rfl ml_X4_123 im_X3_references se_X3_references ini_X3 co_X3_references (by decide +kernel) rfl ⟨Nat.le_of_ble_eq_true rfl, Nat.le_of_ble_eq_true rfl⟩ (⟨by (try dsimp only); omega, by (try dsimp only); omega⟩) (Nat.le_of_ble_eq_true rfl) [1] [0] rfl rfl rfl (by decide) (by decide) (by decide) rfl dX4_count_48 (fun v_48 u_48 hu_48 => ?_)
  obtain ⟨rfl, rfl⟩ := hu_48
  refine k_to (ws' := [(x0, .inr (4, [.ref ro, .ref rn, .ref rt, .ref rr, .ref o, .ref g, .ref z, .int (nI nbs), .int (nI nwd)])), (z, .inr (3, [.ref rn, .ref rt, .ref g, .ref o, .int (nI rf), .int (nI lt), .int (nI rw), .int (nI al), .int (nI i8), .int (nI i9), .int la]))]) (st' := [.int (nI rf)]) rfl rfl ?_
  exact k_iret (u := [(x0, .inr (4, [.ref ro, .ref rn, .ref rt, .ref rr, .ref o, .ref g, .ref z, .int (nI nbs), .int (nI nwd)])), (z, .inr (3, [.ref rn, .ref rt, .ref g, .ref o, .int (nI rf), .int (nI lt), .int (nI rw), .int (nI al), .int (nI i8), .int (nI i9), .int la]))]) X hr [0, 1] (by decide) rfl rfl (⟨rfl, rfl⟩) (by (try dsimp only); omega) (by (try dsimp only); omega) dX4_count_51
set_option maxHeartbeats 4000000 in
set_option maxRecDepth 100000 in
theorem c_count_1 (l : Launch) (D : va_G) (cI cB : ClassId) (x0 : Nat) (ro : Nat) (rn : Nat) (rt : Nat) (rr : Nat) (o : Nat) (g : Nat) (z : Nat) (nbs : Nat) (nwd : Nat) (rf : Nat) (lt : Nat) (rw : Nat) (al : Nat) (i8 : Nat) (i9 : Nat) (la : Int32)  : kC l yX4_count cX4_count 2 (some .int) 1 20 (0) (0) D cI cB [.ref x0, .int 1] [(x0, .inr (4, [.ref ro, .ref rn, .ref rt, .ref rr, .ref o, .ref g, .ref z, .int (nI nbs), .int (nI nwd)])), (z, .inr (3, [.ref rn, .ref rt, .ref g, .ref o, .int (nI rf), .int (nI lt), .int (nI rw), .int (nI al), .int (nI i8), .int (nI i9), .int la]))] (fun (vV : Option Value) (uU : va_W) => vV = some (.int (nI lt)) ∧ uU = [(x0, .inr (4, [.ref ro, .ref rn, .ref rt, .ref rr, .ref o, .ref g, .ref z, .int (nI nbs), .int (nI nwd)])), (z, .inr (3, [.ref rn, .ref rt, .ref g, .ref o, .int (nI rf), .int (nI lt), .int (nI rw), .int (nI al), .int (nI i8), .int (nI i9), .int la]))]) := by
  refine k_entry (lv0 := [(0, .ref x0), (1, .int 1)]) (by decide) (Nat.le_of_ble_eq_true rfl) rfl ?_
  intro zp ze zs zm zb zt zc zA X hr hin
  refine k_iload_n X dX4_count_0 rfl 1 rfl ?_
  refine k_tableIn (off := 51) (tgt := 52) X dX4_count_1 (by decide) (by decide) (by decide) (by decide) ?_
  refine k_aload_n X dX4_count_52 rfl 0 rfl ?_
  refine k_get (v := .ref z) X 0 4 6 rfl rfl (by decide) fl_X4_46 in_X4 rfl rfl dX4_count_53 ?_
  refine k_callV (wc := [(z, .inr (3, [.ref rn, .ref rt, .ref g, .ref o, .int (nI rf), .int (nI lt), .int (nI rw), .int (nI al), .int (nI i8), .int (nI i9), .int la]))]) (wr := [(x0, .inr (4, [.ref ro, .ref rn, .ref rt, .ref rr, .ref o, .ref g, .ref z, .int (nI nbs), .int (nI nwd)]))]) (As := []) (n := 0) (st := []) (q0 := 0) X (c_tel_literals l D cI cB z rn rt g o rf lt rw al i8 i9 la ) rfl rfl ml_X4_126 im_X3_literals se_X3_literals ini_X3 co_X3_literals (by decide +kernel) rfl ⟨Nat.le_of_ble_eq_true rfl, Nat.le_of_ble_eq_true rfl⟩ (⟨by (try dsimp only); omega, by (try dsimp only); omega⟩) (Nat.le_of_ble_eq_true rfl) [1] [0] rfl rfl rfl (by decide) (by decide) (by decide) rfl dX4_count_56 (fun v_56 u_56 hu_56 => ?_)
  obtain ⟨rfl, rfl⟩ := hu_56
  refine k_to (ws' := [(x0, .inr (4, [.ref ro, .ref rn, .ref rt, .ref rr, .ref o, .ref g, .ref z, .int (nI nbs), .int (nI nwd)])), (z, .inr (3, [.ref rn, .ref rt, .ref g, .ref o, .int (nI rf), .int (nI lt), .int (nI rw), .int (nI al), .int (nI i8), .int (nI i9), .int la]))]) (st' := [.int (nI lt)]) rfl rfl ?_
  exact k_iret (u := [(x0, .inr (4, [.ref ro, .ref rn, .ref rt, .ref rr, .ref o, .ref g, .ref z, .int (nI nbs), .int (nI nwd)])), (z, .inr (3, [.ref rn, .ref rt, .ref g, .ref o, .int (nI rf), .int (nI lt), .int (nI rw), .int (nI al), .int (nI i8), .int (nI i9), .int la]))]) X hr [0, 1] (by decide) rfl rfl (⟨rfl, rfl⟩) (by (try dsimp only); omega) (by (try dsimp only); omega) dX4_count_59
set_option maxHeartbeats 4000000 in
set_option maxRecDepth 100000 in
theorem c_count_2 (l : Launch) (D : va_G) (cI cB : ClassId) (x0 : Nat) (ro : Nat) (rn : Nat) (rt : Nat) (rr : Nat) (o : Nat) (g : Nat) (z : Nat) (nbs : Nat) (nwd : Nat) (rf : Nat) (lt : Nat) (rw : Nat) (al : Nat) (i8 : Nat) (i9 : Nat) (la : Int32)  : kC l yX4_count cX4_count 2 (some .int) 1 20 (0) (0) D cI cB [.ref x0, .int 2] [(x0, .inr (4, [.ref ro, .ref rn, .ref rt, .ref rr, .ref o, .ref g, .ref z, .int (nI nbs), .int (nI nwd)])), (z, .inr (3, [.ref rn, .ref rt, .ref g, .ref o, .int (nI rf), .int (nI lt), .int (nI rw), .int (nI al), .int (nI i8), .int (nI i9), .int la]))] (fun (vV : Option Value) (uU : va_W) => vV = some (.int (nI rw)) ∧ uU = [(x0, .inr (4, [.ref ro, .ref rn, .ref rt, .ref rr, .ref o, .ref g, .ref z, .int (nI nbs), .int (nI nwd)])), (z, .inr (3, [.ref rn, .ref rt, .ref g, .ref o, .int (nI rf), .int (nI lt), .int (nI rw), .int (nI al), .int (nI i8), .int (nI i9), .int la]))]) := by
  refine k_entry (lv0 := [(0, .ref x0), (1, .int 2)]) (by decide) (Nat.le_of_ble_eq_true rfl) rfl ?_
  intro zp ze zs zm zb zt zc zA X hr hin
  refine k_iload_n X dX4_count_0 rfl 1 rfl ?_
  refine k_tableIn (off := 59) (tgt := 60) X dX4_count_1 (by decide) (by decide) (by decide) (by decide) ?_
  refine k_aload_n X dX4_count_60 rfl 0 rfl ?_
  refine k_get (v := .ref z) X 0 4 6 rfl rfl (by decide) fl_X4_46 in_X4 rfl rfl dX4_count_61 ?_
  refine k_callV (wc := [(z, .inr (3, [.ref rn, .ref rt, .ref g, .ref o, .int (nI rf), .int (nI lt), .int (nI rw), .int (nI al), .int (nI i8), .int (nI i9), .int la]))]) (wr := [(x0, .inr (4, [.ref ro, .ref rn, .ref rt, .ref rr, .ref o, .ref g, .ref z, .int (nI nbs), .int (nI nwd)]))]) (As := []) (n := 0) (st := []) (q0 := 0) X (c_tel_rows l D cI cB z rn rt g o rf lt rw al i8 i9 la ) rfl rfl ml_X4_129 im_X3_rows se_X3_rows ini_X3 co_X3_rows (by decide +kernel) rfl ⟨Nat.le_of_ble_eq_true rfl, Nat.le_of_ble_eq_true rfl⟩ (⟨by (try dsimp only); omega, by (try dsimp only); omega⟩) (Nat.le_of_ble_eq_true rfl) [1] [0] rfl rfl rfl (by decide) (by decide) (by decide) rfl dX4_count_64 (fun v_64 u_64 hu_64 => ?_)
  obtain ⟨rfl, rfl⟩ := hu_64
  refine k_to (ws' := [(x0, .inr (4, [.ref ro, .ref rn, .ref rt, .ref rr, .ref o, .ref g, .ref z, .int (nI nbs), .int (nI nwd)])), (z, .inr (3, [.ref rn, .ref rt, .ref g, .ref o, .int (nI rf), .int (nI lt), .int (nI rw), .int (nI al), .int (nI i8), .int (nI i9), .int la]))]) (st' := [.int (nI rw)]) rfl rfl ?_
  exact k_iret (u := [(x0, .inr (4, [.ref ro, .ref rn, .ref rt, .ref rr, .ref o, .ref g, .ref z, .int (nI nbs), .int (nI nwd)])), (z, .inr (3, [.ref rn, .ref rt, .ref g, .ref o, .int (nI rf), .int (nI lt), .int (nI rw), .int (nI al), .int (nI i8), .int (nI i9), .int la]))]) X hr [0, 1] (by decide) rfl rfl (⟨rfl, rfl⟩) (by (try dsimp only); omega) (by (try dsimp only); omega) dX4_count_67
set_option maxHeartbeats 4000000 in
set_option maxRecDepth 100000 in
theorem c_count_3 (l : Launch) (D : va_G) (cI cB : ClassId) (x0 : Nat) (ro : Nat) (rn : Nat) (rt : Nat) (rr : Nat) (o : Nat) (g : Nat) (z : Nat) (nbs : Nat) (nwd : Nat) (rf : Nat) (lt : Nat) (rw : Nat) (al : Nat) (i8 : Nat) (i9 : Nat) (la : Int32)  : kC l yX4_count cX4_count 2 (some .int) 1 20 (0) (0) D cI cB [.ref x0, .int 3] [(x0, .inr (4, [.ref ro, .ref rn, .ref rt, .ref rr, .ref o, .ref g, .ref z, .int (nI nbs), .int (nI nwd)])), (z, .inr (3, [.ref rn, .ref rt, .ref g, .ref o, .int (nI rf), .int (nI lt), .int (nI rw), .int (nI al), .int (nI i8), .int (nI i9), .int la]))] (fun (vV : Option Value) (uU : va_W) => vV = some (.int (nI al)) ∧ uU = [(x0, .inr (4, [.ref ro, .ref rn, .ref rt, .ref rr, .ref o, .ref g, .ref z, .int (nI nbs), .int (nI nwd)])), (z, .inr (3, [.ref rn, .ref rt, .ref g, .ref o, .int (nI rf), .int (nI lt), .int (nI rw), .int (nI al), .int (nI i8), .int (nI i9), .int la]))]) := by
  refine k_entry (lv0 := [(0, .ref x0), (1, .int 3)]) (by decide) (Nat.le_of_ble_eq_true rfl) rfl ?_
  intro zp ze zs zm zb zt zc zA X hr hin
  refine k_iload_n X dX4_count_0 rfl 1 rfl ?_
  refine k_tableIn (off := 67) (tgt := 68) X dX4_count_1 (by decide) (by decide) (by decide) (by decide) ?_
  refine k_aload_n X dX4_count_68 rfl 0 rfl ?_
  refine k_get (v := .ref z) X 0 4 6 rfl rfl (by decide) fl_X4_46 in_X4 rfl rfl dX4_count_69 ?_
  refine k_callV (wc := [(z, .inr (3, [.ref rn, .ref rt, .ref g, .ref o, .int (nI rf), .int (nI lt), .int (nI rw), .int (nI al), .int (nI i8), .int (nI i9), .int la]))]) (wr := [(x0, .inr (4, [.ref ro, .ref rn, .ref rt, .ref rr, .ref o, .ref g, .ref z, .int (nI nbs), .int (nI nwd)]))]) (As := []) (n := 0) (st := []) (q0 := 0) X (c_tel_alarms l D cI cB z rn rt g o rf lt rw al i8 i9 la ) rfl rfl ml_X4_132 im_X3_alarms se_X3_alarms ini_X3 co_X3_alarms (by decide +kernel) rfl ⟨Nat.le_of_ble_eq_true rfl, Nat.le_of_ble_eq_true rfl⟩ (⟨by (try dsimp only); omega, by (try dsimp only); omega⟩) (Nat.le_of_ble_eq_true rfl) [1] [0] rfl rfl rfl (by decide) (by decide) (by decide) rfl dX4_count_72 (fun v_72 u_72 hu_72 => ?_)
  obtain ⟨rfl, rfl⟩ := hu_72
  refine k_to (ws' := [(x0, .inr (4, [.ref ro, .ref rn, .ref rt, .ref rr, .ref o, .ref g, .ref z, .int (nI nbs), .int (nI nwd)])), (z, .inr (3, [.ref rn, .ref rt, .ref g, .ref o, .int (nI rf), .int (nI lt), .int (nI rw), .int (nI al), .int (nI i8), .int (nI i9), .int la]))]) (st' := [.int (nI al)]) rfl rfl ?_
  exact k_iret (u := [(x0, .inr (4, [.ref ro, .ref rn, .ref rt, .ref rr, .ref o, .ref g, .ref z, .int (nI nbs), .int (nI nwd)])), (z, .inr (3, [.ref rn, .ref rt, .ref g, .ref o, .int (nI rf), .int (nI lt), .int (nI rw), .int (nI al), .int (nI i8), .int (nI i9), .int la]))]) X hr [0, 1] (by decide) rfl rfl (⟨rfl, rfl⟩) (by (try dsimp only); omega) (by (try dsimp only); omega) dX4_count_75
set_option maxHeartbeats 4000000 in
set_option maxRecDepth 100000 in
theorem c_count_4 (l : Launch) (D : va_G) (cI cB : ClassId) (x0 : Nat) (ro : Nat) (rn : Nat) (rt : Nat) (rr : Nat) (o : Nat) (g : Nat) (z : Nat) (nbs : Nat) (nwd : Nat) (qs : Nat) (qd : Nat) (qh : Nat) (qn : Nat) (bs : Nat) (wd : Nat) (nb : Nat)  : kC l yX4_count cX4_count 2 (some .int) 1 20 (0) (0) D cI cB [.ref x0, .int 4] [(x0, .inr (4, [.ref ro, .ref rn, .ref rt, .ref rr, .ref o, .ref g, .ref z, .int (nI nbs), .int (nI nwd)])), (g, .inr (2, [.int (nI bs), .int (nI wd), .int (nI nb), .ref qs, .ref qd, .ref qh, .ref qn]))] (fun (vV : Option Value) (uU : va_W) => vV = some (.int (nI nb)) ∧ uU = [(x0, .inr (4, [.ref ro, .ref rn, .ref rt, .ref rr, .ref o, .ref g, .ref z, .int (nI nbs), .int (nI nwd)])), (g, .inr (2, [.int (nI bs), .int (nI wd), .int (nI nb), .ref qs, .ref qd, .ref qh, .ref qn]))]) := by
  refine k_entry (lv0 := [(0, .ref x0), (1, .int 4)]) (by decide) (Nat.le_of_ble_eq_true rfl) rfl ?_
  intro zp ze zs zm zb zt zc zA X hr hin
  refine k_iload_n X dX4_count_0 rfl 1 rfl ?_
  refine k_tableIn (off := 75) (tgt := 76) X dX4_count_1 (by decide) (by decide) (by decide) (by decide) ?_
  refine k_aload_n X dX4_count_76 rfl 0 rfl ?_
  refine k_get (v := .ref g) X 0 4 5 rfl rfl (by decide) fl_X4_37 in_X4 rfl rfl dX4_count_77 ?_
  refine k_callV (wc := [(g, .inr (2, [.int (nI bs), .int (nI wd), .int (nI nb), .ref qs, .ref qd, .ref qh, .ref qn]))]) (wr := [(x0, .inr (4, [.ref ro, .ref rn, .ref rt, .ref rr, .ref o, .ref g, .ref z, .int (nI nbs), .int (nI nwd)]))]) (As := []) (n := 0) (st := []) (q0 := 0) X (c_sig_blocks l D cI cB g qs qd qh qn bs wd nb ) rfl rfl ml_X4_83 im_X2_blocks se_X2_blocks ini_X2 co_X2_blocks (by decide +kernel) rfl ⟨Nat.le_of_ble_eq_true rfl, Nat.le_of_ble_eq_true rfl⟩ (⟨by (try dsimp only); omega, by (try dsimp only); omega⟩) (Nat.le_of_ble_eq_true rfl) [1] [0] rfl rfl rfl (by decide) (by decide) (by decide) rfl dX4_count_80 (fun v_80 u_80 hu_80 => ?_)
  obtain ⟨rfl, rfl⟩ := hu_80
  refine k_to (ws' := [(x0, .inr (4, [.ref ro, .ref rn, .ref rt, .ref rr, .ref o, .ref g, .ref z, .int (nI nbs), .int (nI nwd)])), (g, .inr (2, [.int (nI bs), .int (nI wd), .int (nI nb), .ref qs, .ref qd, .ref qh, .ref qn]))]) (st' := [.int (nI nb)]) rfl rfl ?_
  exact k_iret (u := [(x0, .inr (4, [.ref ro, .ref rn, .ref rt, .ref rr, .ref o, .ref g, .ref z, .int (nI nbs), .int (nI nwd)])), (g, .inr (2, [.int (nI bs), .int (nI wd), .int (nI nb), .ref qs, .ref qd, .ref qh, .ref qn]))]) X hr [0, 1] (by decide) rfl rfl (⟨rfl, rfl⟩) (by (try dsimp only); omega) (by (try dsimp only); omega) dX4_count_83
set_option maxHeartbeats 4000000 in
set_option maxRecDepth 100000 in
theorem c_count_5 (l : Launch) (D : va_G) (cI cB : ClassId) (x0 : Nat) (ro : Nat) (rn : Nat) (rt : Nat) (rr : Nat) (o : Nat) (g : Nat) (z : Nat) (nbs : Nat) (nwd : Nat) (qs : Nat) (qd : Nat) (qh : Nat) (qn : Nat) (bs : Nat) (wd : Nat) (nb : Nat)  : kC l yX4_count cX4_count 2 (some .int) 1 20 (0) (0) D cI cB [.ref x0, .int 5] [(x0, .inr (4, [.ref ro, .ref rn, .ref rt, .ref rr, .ref o, .ref g, .ref z, .int (nI nbs), .int (nI nwd)])), (g, .inr (2, [.int (nI bs), .int (nI wd), .int (nI nb), .ref qs, .ref qd, .ref qh, .ref qn]))] (fun (vV : Option Value) (uU : va_W) => vV = some (.int (nI bs)) ∧ uU = [(x0, .inr (4, [.ref ro, .ref rn, .ref rt, .ref rr, .ref o, .ref g, .ref z, .int (nI nbs), .int (nI nwd)])), (g, .inr (2, [.int (nI bs), .int (nI wd), .int (nI nb), .ref qs, .ref qd, .ref qh, .ref qn]))]) := by
  refine k_entry (lv0 := [(0, .ref x0), (1, .int 5)]) (by decide) (Nat.le_of_ble_eq_true rfl) rfl ?_
  intro zp ze zs zm zb zt zc zA X hr hin
  refine k_iload_n X dX4_count_0 rfl 1 rfl ?_
  refine k_tableIn (off := 83) (tgt := 84) X dX4_count_1 (by decide) (by decide) (by decide) (by decide) ?_
  refine k_aload_n X dX4_count_84 rfl 0 rfl ?_
  refine k_get (v := .ref g) X 0 4 5 rfl rfl (by decide) fl_X4_37 in_X4 rfl rfl dX4_count_85 ?_
  refine k_callV (wc := [(g, .inr (2, [.int (nI bs), .int (nI wd), .int (nI nb), .ref qs, .ref qd, .ref qh, .ref qn]))]) (wr := [(x0, .inr (4, [.ref ro, .ref rn, .ref rt, .ref rr, .ref o, .ref g, .ref z, .int (nI nbs), .int (nI nwd)]))]) (As := []) (n := 0) (st := []) (q0 := 0) X (c_sig_blockSize l D cI cB g qs qd qh qn bs wd nb ) rfl rfl ml_X4_135 im_X2_blockSize se_X2_blockSize ini_X2 co_X2_blockSize (by decide +kernel) rfl ⟨Nat.le_of_ble_eq_true rfl, Nat.le_of_ble_eq_true rfl⟩ (⟨by (try dsimp only); omega, by (try dsimp only); omega⟩) (Nat.le_of_ble_eq_true rfl) [1] [0] rfl rfl rfl (by decide) (by decide) (by decide) rfl dX4_count_88 (fun v_88 u_88 hu_88 => ?_)
  obtain ⟨rfl, rfl⟩ := hu_88
  refine k_to (ws' := [(x0, .inr (4, [.ref ro, .ref rn, .ref rt, .ref rr, .ref o, .ref g, .ref z, .int (nI nbs), .int (nI nwd)])), (g, .inr (2, [.int (nI bs), .int (nI wd), .int (nI nb), .ref qs, .ref qd, .ref qh, .ref qn]))]) (st' := [.int (nI bs)]) rfl rfl ?_
  exact k_iret (u := [(x0, .inr (4, [.ref ro, .ref rn, .ref rt, .ref rr, .ref o, .ref g, .ref z, .int (nI nbs), .int (nI nwd)])), (g, .inr (2, [.int (nI bs), .int (nI wd), .int (nI nb), .ref qs, .ref qd, .ref qh, .ref qn]))]) X hr [0, 1] (by decide) rfl rfl (⟨rfl, rfl⟩) (by (try dsimp only); omega) (by (try dsimp only); omega) dX4_count_91
set_option maxHeartbeats 4000000 in
set_option maxRecDepth 100000 in
theorem c_count_6 (l : Launch) (D : va_G) (cI cB : ClassId) (x0 : Nat) (ro : Nat) (rn : Nat) (rt : Nat) (rr : Nat) (o : Nat) (g : Nat) (z : Nat) (nbs : Nat) (nwd : Nat) (qs : Nat) (qd : Nat) (qh : Nat) (qn : Nat) (bs : Nat) (wd : Nat) (nb : Nat)  : kC l yX4_count cX4_count 2 (some .int) 1 20 (0) (0) D cI cB [.ref x0, .int 6] [(x0, .inr (4, [.ref ro, .ref rn, .ref rt, .ref rr, .ref o, .ref g, .ref z, .int (nI nbs), .int (nI nwd)])), (g, .inr (2, [.int (nI bs), .int (nI wd), .int (nI nb), .ref qs, .ref qd, .ref qh, .ref qn]))] (fun (vV : Option Value) (uU : va_W) => vV = some (.int (nI wd)) ∧ uU = [(x0, .inr (4, [.ref ro, .ref rn, .ref rt, .ref rr, .ref o, .ref g, .ref z, .int (nI nbs), .int (nI nwd)])), (g, .inr (2, [.int (nI bs), .int (nI wd), .int (nI nb), .ref qs, .ref qd, .ref qh, .ref qn]))]) := by
  refine k_entry (lv0 := [(0, .ref x0), (1, .int 6)]) (by decide) (Nat.le_of_ble_eq_true rfl) rfl ?_
  intro zp ze zs zm zb zt zc zA X hr hin
  refine k_iload_n X dX4_count_0 rfl 1 rfl ?_
  refine k_tableIn (off := 91) (tgt := 92) X dX4_count_1 (by decide) (by decide) (by decide) (by decide) ?_
  refine k_aload_n X dX4_count_92 rfl 0 rfl ?_
  refine k_get (v := .ref g) X 0 4 5 rfl rfl (by decide) fl_X4_37 in_X4 rfl rfl dX4_count_93 ?_
  refine k_callV (wc := [(g, .inr (2, [.int (nI bs), .int (nI wd), .int (nI nb), .ref qs, .ref qd, .ref qh, .ref qn]))]) (wr := [(x0, .inr (4, [.ref ro, .ref rn, .ref rt, .ref rr, .ref o, .ref g, .ref z, .int (nI nbs), .int (nI nwd)]))]) (As := []) (n := 0) (st := []) (q0 := 0) X (c_sig_width l D cI cB g qs qd qh qn bs wd nb ) rfl rfl ml_X4_138 im_X2_width se_X2_width ini_X2 co_X2_width (by decide +kernel) rfl ⟨Nat.le_of_ble_eq_true rfl, Nat.le_of_ble_eq_true rfl⟩ (⟨by (try dsimp only); omega, by (try dsimp only); omega⟩) (Nat.le_of_ble_eq_true rfl) [1] [0] rfl rfl rfl (by decide) (by decide) (by decide) rfl dX4_count_96 (fun v_96 u_96 hu_96 => ?_)
  obtain ⟨rfl, rfl⟩ := hu_96
  refine k_to (ws' := [(x0, .inr (4, [.ref ro, .ref rn, .ref rt, .ref rr, .ref o, .ref g, .ref z, .int (nI nbs), .int (nI nwd)])), (g, .inr (2, [.int (nI bs), .int (nI wd), .int (nI nb), .ref qs, .ref qd, .ref qh, .ref qn]))]) (st' := [.int (nI wd)]) rfl rfl ?_
  exact k_iret (u := [(x0, .inr (4, [.ref ro, .ref rn, .ref rt, .ref rr, .ref o, .ref g, .ref z, .int (nI nbs), .int (nI nwd)])), (g, .inr (2, [.int (nI bs), .int (nI wd), .int (nI nb), .ref qs, .ref qd, .ref qh, .ref qn]))]) X hr [0, 1] (by decide) rfl rfl (⟨rfl, rfl⟩) (by (try dsimp only); omega) (by (try dsimp only); omega) dX4_count_99
set_option maxHeartbeats 4000000 in
set_option maxRecDepth 100000 in
theorem c_count_f (l : Launch) (D : va_G) (cI cB : ClassId) (x0 : Nat) (ro : Nat) (rn : Nat) (rt : Nat) (rr : Nat) (o : Nat) (g : Nat) (z : Nat) (nbs : Nat) (nwd : Nat) (wh : Int32) (hwh : wh.toInt < 0 ∨ 6 < wh.toInt) : kC l yX4_count cX4_count 2 (some .int) 0 0 (0) (0) D cI cB [.ref x0, .int wh] [(x0, .inr (4, [.ref ro, .ref rn, .ref rt, .ref rr, .ref o, .ref g, .ref z, .int (nI nbs), .int (nI nwd)]))] (fun (vV : Option Value) (uU : va_W) => vV = some (.int (-1)) ∧ uU = [(x0, .inr (4, [.ref ro, .ref rn, .ref rt, .ref rr, .ref o, .ref g, .ref z, .int (nI nbs), .int (nI nwd)]))]) := by
  refine k_entry (lv0 := [(0, .ref x0), (1, .int wh)]) (by decide) (Nat.le_of_ble_eq_true rfl) rfl ?_
  intro zp ze zs zm zb zt zc zA X hr hin
  refine k_iload_n X dX4_count_0 rfl 1 rfl ?_
  refine k_tableOut (tgt := 100) X dX4_count_1 (hwh) (by decide) ?_
  refine k_iconst (v := -1) X dX4_count_100 (by decide) ?_
  exact k_iret (u := [(x0, .inr (4, [.ref ro, .ref rn, .ref rt, .ref rr, .ref o, .ref g, .ref z, .int (nI nbs), .int (nI nwd)]))]) X hr [0] (by decide) rfl rfl (⟨rfl, rfl⟩) (by (try dsimp only); omega) (by (try dsimp only); omega) dX4_count_101
