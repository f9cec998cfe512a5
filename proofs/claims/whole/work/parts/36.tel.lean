/-! the teller: what it writes -/
theorem rSet_nI {f : Nat → Int32} {k i : Nat} {b : Int32} (h : i < k) (hk : k ≤ 100000) (hb : rByte b) : rSet f k (nI i) b = upd f i b := by
  rw [rSet, if_pos ⟨rIn_nI h hk, hb⟩, nI_clamp (by omega)]
def gc (n0 : Nat) : Nat → Nat
  | 0 => n0
  | k + 1 => rCap 8000 (gc n0 k) (k + 1)
def gs (n0 : Nat) : Nat → Nat
  | 0 => 0
  | k + 1 => gs n0 k + rCost 8000 (gc n0 k) (k + 1)
theorem gc_ok {n0 : Nat} (h1 : 1 ≤ n0) (h0 : n0 ≤ 8000) : ∀ k, k ≤ 8000 → k ≤ gc n0 k ∧ gc n0 k ≤ 8000 ∧ 1 ≤ gc n0 k := by
  intro k
  induction k with
  | zero => intro _; exact ⟨Nat.zero_le _, h0, h1⟩
  | succ k ih =>
    intro hk
    obtain ⟨a, b, c⟩ := ih (by omega)
    show k + 1 ≤ rCap 8000 (gc n0 k) (k + 1) ∧ rCap 8000 (gc n0 k) (k + 1) ≤ 8000 ∧ 1 ≤ rCap 8000 (gc n0 k) (k + 1)
    rw [rCap]
    split <;> omega
def litOpen (k : Nat) (f : Nat → Int32) (b : Int32) : Nat → Int32 := upd (upd (upd f k 0) (k + 1) 1) (k + 2) b
def litGrow (k : Nat) (f : Nat → Int32) (ia ir : Nat) (b : Int32) : Nat → Int32 := upd (upd f ia (nI (ir + 1))) k b
def refOpen (k : Nat) (f : Nat → Int32) (bn : Nat) : Nat → Int32 := upd (upd (upd (upd f k 1) (k + 1) (nI (bn / 256))) (k + 2) (nI (bn % 256))) (k + 3) 1
def refGrow (f : Nat → Int32) (ia ir : Nat) : Nat → Int32 := upd f ia (nI (ir + 1))
theorem agr_push {f g f2 : Nat → Int32} {k : Nat} {b : Int32} (h : ∀ j, j < k → f j = g j) (h1 : f2 k = b) (h2 : ∀ j, j < k → f2 j = f j) : ∀ j, j < k + 1 → f2 j = upd g k b j := by
  intro j hj
  by_cases e : j = k
  · rw [e, pk_us, h1]
  · rw [pk_un e, h2 j (by omega), h j (by omega)]
theorem agr_set {f g : Nat → Int32} {k i : Nat} {b : Int32} (h : ∀ j, j < k → f j = g j) : ∀ j, j < k → upd f i b j = upd g i b j := by
  intro j hj
  by_cases e : j = i
  · rw [e, pk_us, pk_us]
  · rw [pk_un e, pk_un e, h j hj]
theorem byte0 : rByte 0 := by decide
theorem byte1 : rByte 1 := by decide
set_option maxHeartbeats 4000000 in
set_option maxRecDepth 100000 in
theorem c_tel_references (l : Launch) (D : va_G) (cI cB : ClassId) (z : Nat) (so : Nat) (tg : Nat) (g : Nat) (o : Nat) (rf : Nat) (lt : Nat) (ro : Nat) (al : Nat) (ir : Nat) (ia : Nat) (la : Int32)  : kC l yX3_references cX3_references 1 (some .int) 0 0 (0) (0) D cI cB [.ref z] [(z, .inr (3, [.ref so, .ref tg, .ref g, .ref o, .int (nI rf), .int (nI lt), .int (nI ro), .int (nI al), .int (nI ir), .int (nI ia), .int la]))] (fun (vV : Option Value) (uU : va_W) => vV = some (.int (nI rf)) ∧ uU = [(z, .inr (3, [.ref so, .ref tg, .ref g, .ref o, .int (nI rf), .int (nI lt), .int (nI ro), .int (nI al), .int (nI ir), .int (nI ia), .int la]))]) := by
  refine k_entry (lv0 := [(0, .ref z)]) (by decide) (Nat.le_of_ble_eq_true rfl) rfl ?_
  intro zp ze zs zm zb zt zc zA X hr hin
  refine k_aload_n X dX3_references_0 rfl 0 rfl ?_
  refine k_get (v := .int (nI rf)) X 0 3 4 rfl rfl (by decide) fl_X3_29 in_X3 rfl rfl dX3_references_1 ?_
  exact k_iret (u := [(z, .inr (3, [.ref so, .ref tg, .ref g, .ref o, .int (nI rf), .int (nI lt), .int (nI ro), .int (nI al), .int (nI ir), .int (nI ia), .int la]))]) X hr [0] (by decide) rfl rfl (⟨rfl, rfl⟩) (by (try dsimp only); omega) (by (try dsimp only); omega) dX3_references_4
set_option maxHeartbeats 4000000 in
set_option maxRecDepth 100000 in
theorem c_tel_literals (l : Launch) (D : va_G) (cI cB : ClassId) (z : Nat) (so : Nat) (tg : Nat) (g : Nat) (o : Nat) (rf : Nat) (lt : Nat) (ro : Nat) (al : Nat) (ir : Nat) (ia : Nat) (la : Int32)  : kC l yX3_literals cX3_literals 1 (some .int) 0 0 (0) (0) D cI cB [.ref z] [(z, .inr (3, [.ref so, .ref tg, .ref g, .ref o, .int (nI rf), .int (nI lt), .int (nI ro), .int (nI al), .int (nI ir), .int (nI ia), .int la]))] (fun (vV : Option Value) (uU : va_W) => vV = some (.int (nI lt)) ∧ uU = [(z, .inr (3, [.ref so, .ref tg, .ref g, .ref o, .int (nI rf), .int (nI lt), .int (nI ro), .int (nI al), .int (nI ir), .int (nI ia), .int la]))]) := by
  refine k_entry (lv0 := [(0, .ref z)]) (by decide) (Nat.le_of_ble_eq_true rfl) rfl ?_
  intro zp ze zs zm zb zt zc zA X hr hin
  refine k_aload_n X dX3_literals_0 rfl 0 rfl ?_
  refine k_get (v := .int (nI lt)) X 0 3 5 rfl rfl (by decide) fl_X3_33 in_X3 rfl rfl dX3_literals_1 ?_
  exact k_iret (u := [(z, .inr (3, [.ref so, .ref tg, .ref g, .ref o, .int (nI rf), .int (nI lt), .int (nI ro), .int (nI al), .int (nI ir), .int (nI ia), .int la]))]) X hr [0] (by decide) rfl rfl (⟨rfl, rfl⟩) (by (try dsimp only); omega) (by (try dsimp only); omega) dX3_literals_4
set_option maxHeartbeats 4000000 in
set_option maxRecDepth 100000 in
theorem c_tel_rows (l : Launch) (D : va_G) (cI cB : ClassId) (z : Nat) (so : Nat) (tg : Nat) (g : Nat) (o : Nat) (rf : Nat) (lt : Nat) (ro : Nat) (al : Nat) (ir : Nat) (ia : Nat) (la : Int32)  : kC l yX3_rows cX3_rows 1 (some .int) 0 0 (0) (0) D cI cB [.ref z] [(z, .inr (3, [.ref so, .ref tg, .ref g, .ref o, .int (nI rf), .int (nI lt), .int (nI ro), .int (nI al), .int (nI ir), .int (nI ia), .int la]))] (fun (vV : Option Value) (uU : va_W) => vV = some (.int (nI ro)) ∧ uU = [(z, .inr (3, [.ref so, .ref tg, .ref g, .ref o, .int (nI rf), .int (nI lt), .int (nI ro), .int (nI al), .int (nI ir), .int (nI ia), .int la]))]) := by
  refine k_entry (lv0 := [(0, .ref z)]) (by decide) (Nat.le_of_ble_eq_true rfl) rfl ?_
  intro zp ze zs zm zb zt zc zA X hr hin
  refine k_aload_n X dX3_rows_0 rfl 0 rfl ?_
  refine k_get (v := .int (nI ro)) X 0 3 6 rfl rfl (by decide) fl_X3_36 in_X3 rfl rfl dX3_rows_1 ?_
  exact k_iret (u := [(z, .inr (3, [.ref so, .ref tg, .ref g, .ref o, .int (nI rf), .int (nI lt), .int (nI ro), .int (nI al), .int (nI ir), .int (nI ia), .int la]))]) X hr [0] (by decide) rfl rfl (⟨rfl, rfl⟩) (by (try dsimp only); omega) (by (try dsimp only); omega) dX3_rows_4
set_option maxHeartbeats 4000000 in
set_option maxRecDepth 100000 in
theorem c_tel_alarms (l : Launch) (D : va_G) (cI cB : ClassId) (z : Nat) (so : Nat) (tg : Nat) (g : Nat) (o : Nat) (rf : Nat) (lt : Nat) (ro : Nat) (al : Nat) (ir : Nat) (ia : Nat) (la : Int32)  : kC l yX3_alarms cX3_alarms 1 (some .int) 0 0 (0) (0) D cI cB [.ref z] [(z, .inr (3, [.ref so, .ref tg, .ref g, .ref o, .int (nI rf), .int (nI lt), .int (nI ro), .int (nI al), .int (nI ir), .int (nI ia), .int la]))] (fun (vV : Option Value) (uU : va_W) => vV = some (.int (nI al)) ∧ uU = [(z, .inr (3, [.ref so, .ref tg, .ref g, .ref o, .int (nI rf), .int (nI lt), .int (nI ro), .int (nI al), .int (nI ir), .int (nI ia), .int la]))]) := by
  refine k_entry (lv0 := [(0, .ref z)]) (by decide) (Nat.le_of_ble_eq_true rfl) rfl ?_
  intro zp ze zs zm zb zt zc zA X hr hin
  refine k_aload_n X dX3_alarms_0 rfl 0 rfl ?_
  refine k_get (v := .int (nI al)) X 0 3 7 rfl rfl (by decide) fl_X3_39 in_X3 rfl rfl dX3_alarms_1 ?_
  exact k_iret (u := [(z, .inr (3, [.ref so, .ref tg, .ref g, .ref o, .int (nI rf), .int (nI lt), .int (nI ro), .int (nI al), .int (nI ir), .int (nI ia), .int la]))]) X hr [0] (by decide) rfl rfl (⟨rfl, rfl⟩) (by (try dsimp only); omega) (by (try dsimp only); omega) dX3_alarms_4
set_option maxHeartbeats 4000000 in
set_option maxRecDepth 100000 in
theorem c_startAnew (l : Launch) (D : va_G) (cI cB : ClassId) (z : Nat) (so : Nat) (tg : Nat) (g : Nat) (o : Nat) (v4 : Int32) (v5 : Int32) (v6 : Int32) (v7 : Int32) (v8 : Int32) (v9 : Int32) (va : Int32)  : kC l yX3_startAnew cX3_startAnew 1 none 0 0 (0) (0) D cI cB [.ref z] [(z, .inr (3, [.ref so, .ref tg, .ref g, .ref o, .int v4, .int v5, .int v6, .int v7, .int v8, .int v9, .int va]))] (fun (vV : Option Value) (uU : va_W) => vV = none ∧ uU = [(z, .inr (3, [.ref so, .ref tg, .ref g, .ref o, .int (nI 0), .int (nI 0), .int (nI 0), .int (nI 0), .int (nI 0), .int (nI 0), .int (-1)]))]) := by
  refine k_entry (lv0 := [(0, .ref z)]) (by decide) (Nat.le_of_ble_eq_true rfl) rfl ?_
  intro zp ze zs zm zb zt zc zA X hr hin
  refine k_aload_n X dX3_startAnew_0 rfl 0 rfl ?_
  refine k_iconst (v := 0) X dX3_startAnew_1 (by decide) ?_
  refine k_put (v := .int 0) (ty := .int) (ws' := [(z, .inr (3, [.ref so, .ref tg, .ref g, .ref o, .int 0, .int v5, .int v6, .int v7, .int v8, .int v9, .int va]))]) X 0 3 4 tyX3 tyX3_ok nmX3 rfl rfl (by decide) fl_X3_29 in_X3 rfl rfl (by decide +kernel) rfl rfl (Nat.le_of_ble_eq_true rfl) rfl dX3_startAnew_2 ?_
  refine k_aload_n X dX3_startAnew_5 rfl 0 rfl ?_
  refine k_iconst (v := 0) X dX3_startAnew_6 (by decide) ?_
  refine k_put (v := .int 0) (ty := .int) (ws' := [(z, .inr (3, [.ref so, .ref tg, .ref g, .ref o, .int 0, .int 0, .int v6, .int v7, .int v8, .int v9, .int va]))]) X 0 3 5 tyX3 tyX3_ok nmX3 rfl rfl (by decide) fl_X3_33 in_X3 rfl rfl (by decide +kernel) rfl rfl (Nat.le_of_ble_eq_true rfl) rfl dX3_startAnew_7 ?_
  refine k_aload_n X dX3_startAnew_10 rfl 0 rfl ?_
  refine k_iconst (v := 0) X dX3_startAnew_11 (by decide) ?_
  refine k_put (v := .int 0) (ty := .int) (ws' := [(z, .inr (3, [.ref so, .ref tg, .ref g, .ref o, .int 0, .int 0, .int 0, .int v7, .int v8, .int v9, .int va]))]) X 0 3 6 tyX3 tyX3_ok nmX3 rfl rfl (by decide) fl_X3_36 in_X3 rfl rfl (by decide +kernel) rfl rfl (Nat.le_of_ble_eq_true rfl) rfl dX3_startAnew_12 ?_
  refine k_aload_n X dX3_startAnew_15 rfl 0 rfl ?_
  refine k_iconst (v := 0) X dX3_startAnew_16 (by decide) ?_
  refine k_put (v := .int 0) (ty := .int) (ws' := [(z, .inr (3, [.ref so, .ref tg, .ref g, .ref o, .int 0, .int 0, .int 0, .int 0, .int v8, .int v9, .int va]))]) X 0 3 7 tyX3 tyX3_ok nmX3 rfl rfl (by decide) fl_X3_39 in_X3 rfl rfl (by decide +kernel) rfl rfl (Nat.le_of_ble_eq_true rfl) rfl dX3_startAnew_17 ?_
  refine k_aload_n X dX3_startAnew_20 rfl 0 rfl ?_
  refine k_iconst (v := 0) X dX3_startAnew_21 (by decide) ?_
  refine k_put (v := .int 0) (ty := .int) (ws' := [(z, .inr (3, [.ref so, .ref tg, .ref g, .ref o, .int 0, .int 0, .int 0, .int 0, .int 0, .int v9, .int va]))]) X 0 3 8 tyX3 tyX3_ok nmX3 rfl rfl (by decide) fl_X3_82 in_X3 rfl rfl (by decide +kernel) rfl rfl (Nat.le_of_ble_eq_true rfl) rfl dX3_startAnew_22 ?_
  refine k_aload_n X dX3_startAnew_25 rfl 0 rfl ?_
  refine k_iconst (v := 0) X dX3_startAnew_26 (by decide) ?_
  refine k_put (v := .int 0) (ty := .int) (ws' := [(z, .inr (3, [.ref so, .ref tg, .ref g, .ref o, .int 0, .int 0, .int 0, .int 0, .int 0, .int 0, .int va]))]) X 0 3 9 tyX3 tyX3_ok nmX3 rfl rfl (by decide) fl_X3_85 in_X3 rfl rfl (by decide +kernel) rfl rfl (Nat.le_of_ble_eq_true rfl) rfl dX3_startAnew_27 ?_
  refine k_aload_n X dX3_startAnew_30 rfl 0 rfl ?_
  refine k_iconst (v := -1) X dX3_startAnew_31 (by decide) ?_
  refine k_put (v := .int (-1)) (ty := .int) (ws' := [(z, .inr (3, [.ref so, .ref tg, .ref g, .ref o, .int 0, .int 0, .int 0, .int 0, .int 0, .int 0, .int (-1)]))]) X 0 3 10 tyX3 tyX3_ok nmX3 rfl rfl (by decide) fl_X3_88 in_X3 rfl rfl (by decide +kernel) rfl rfl (Nat.le_of_ble_eq_true rfl) rfl dX3_startAnew_32 ?_
  exact k_vret (u := [(z, .inr (3, [.ref so, .ref tg, .ref g, .ref o, .int 0, .int 0, .int 0, .int 0, .int 0, .int 0, .int (-1)]))]) X hr [0] (by decide) rfl rfl (⟨rfl, rfl⟩) (by (try dsimp only); omega) (by (try dsimp only); omega) dX3_startAnew_35
set_option maxHeartbeats 4000000 in
set_option maxRecDepth 100000 in
theorem c_Teller (l : Launch) (D : va_G) (cI cB : ClassId) (z : Nat) (so : Nat) (tg : Nat) (g : Nat) (o : Nat)  : kC l yX3_init cX3_init 5 none 1 20 (0) (0) D cI cB [.ref z, .ref so, .ref tg, .ref g, .ref o] [(z, .inr (3, [.null, .null, .null, .null, .int 0, .int 0, .int 0, .int 0, .int 0, .int 0, .int 0]))] (fun (vV : Option Value) (uU : va_W) => vV = none ∧ uU = [(z, .inr (3, [.ref so, .ref tg, .ref g, .ref o, .int (nI 0), .int (nI 0), .int (nI 0), .int (nI 0), .int (nI 0), .int (nI 0), .int (-1)]))]) := by
  refine k_entry (lv0 := [(0, .ref z), (1, .ref so), (2, .ref tg), (3, .ref g), (4, .ref o)]) (by decide) (Nat.le_of_ble_eq_true rfl) rfl ?_
  intro zp ze zs zm zb zt zc zA X hr hin
  refine k_aload_n X dX3_init_0 rfl 0 rfl ?_
  refine k_objInit X ml_X3_3 im_objInit co_objInit (Nat.le_of_ble_eq_true rfl) (Nat.le_of_ble_eq_true rfl) dX3_init_1 ?_
  refine k_aload_n X dX3_init_4 rfl 0 rfl ?_
  refine k_aload_n X dX3_init_5 rfl 1 rfl ?_
  refine k_putF (v := .ref so) (ty := .object "DeltaSync$Row") (ws' := [(z, .inr (3, [.ref so, .null, .null, .null, .int 0, .int 0, .int 0, .int 0, .int 0, .int 0, .int 0]))]) X 0 3 0 tyX3 tyX3_ok nmX3 rfl rfl (by decide) fl_X3_9 in_X3 rfl rfl hin rfl (by decide +kernel) rfl rfl (Nat.le_of_ble_eq_true rfl) rfl dX3_init_6 ?_
  refine k_aload_n X dX3_init_9 rfl 0 rfl ?_
  refine k_aload_n X dX3_init_10 rfl 2 rfl ?_
  refine k_putF (v := .ref tg) (ty := .object "DeltaSync$Row") (ws' := [(z, .inr (3, [.ref so, .ref tg, .null, .null, .int 0, .int 0, .int 0, .int 0, .int 0, .int 0, .int 0]))]) X 0 3 1 tyX3 tyX3_ok nmX3 rfl rfl (by decide) fl_X3_15 in_X3 rfl rfl hin rfl (by decide +kernel) rfl rfl (Nat.le_of_ble_eq_true rfl) rfl dX3_init_11 ?_
  refine k_aload_n X dX3_init_14 rfl 0 rfl ?_
  refine k_aload_n X dX3_init_15 rfl 3 rfl ?_
  refine k_putF (v := .ref g) (ty := .object "DeltaSync$Signature") (ws' := [(z, .inr (3, [.ref so, .ref tg, .ref g, .null, .int 0, .int 0, .int 0, .int 0, .int 0, .int 0, .int 0]))]) X 0 3 2 tyX3 tyX3_ok nmX3 rfl rfl (by decide) fl_X3_18 in_X3 rfl rfl hin rfl (by decide +kernel) rfl rfl (Nat.le_of_ble_eq_true rfl) rfl dX3_init_16 ?_
  refine k_aload_n X dX3_init_19 rfl 0 rfl ?_
  refine k_aload X dX3_init_20 4 rfl ?_
  refine k_putF (v := .ref o) (ty := .object "DeltaSync$Md5") (ws' := [(z, .inr (3, [.ref so, .ref tg, .ref g, .ref o, .int 0, .int 0, .int 0, .int 0, .int 0, .int 0, .int 0]))]) X 0 3 3 tyX3 tyX3_ok nmX3 rfl rfl (by decide) fl_X3_22 in_X3 rfl rfl hin rfl (by decide +kernel) rfl rfl (Nat.le_of_ble_eq_true rfl) rfl dX3_init_22 ?_
  refine k_aload_n X dX3_init_25 rfl 0 rfl ?_
  refine k_callV (wc := [(z, .inr (3, [.ref so, .ref tg, .ref g, .ref o, .int 0, .int 0, .int 0, .int 0, .int 0, .int 0, .int 0]))]) (wr := []) (As := []) (n := 0) (st := []) (q0 := 0) X (c_startAnew l D cI cB z so tg g o 0 0 0 0 0 0 0 ) rfl rfl ml_X3_26 im_X3_startAnew se_X3_startAnew ini_X3 co_X3_startAnew (by decide +kernel) rfl ⟨Nat.le_of_ble_eq_true rfl, Nat.le_of_ble_eq_true rfl⟩ (⟨by (try dsimp only); omega, by (try dsimp only); omega⟩) (Nat.le_of_ble_eq_true rfl) [0] [] rfl rfl rfl (by decide) (by decide) (by decide) rfl dX3_init_26 (fun v_26 u_26 hu_26 => ?_)
  obtain ⟨rfl, rfl⟩ := hu_26
  refine k_to (ws' := [(z, .inr (3, [.ref so, .ref tg, .ref g, .ref o, .int (nI 0), .int (nI 0), .int (nI 0), .int (nI 0), .int (nI 0), .int (nI 0), .int (-1)]))]) (st' := []) rfl rfl ?_
  exact k_vret (u := [(z, .inr (3, [.ref so, .ref tg, .ref g, .ref o, .int (nI 0), .int (nI 0), .int (nI 0), .int (nI 0), .int (nI 0), .int (nI 0), .int (-1)]))]) X hr [0] (by decide) rfl rfl (⟨rfl, rfl⟩) (by (try dsimp only); omega) (by (try dsimp only); omega) dX3_init_29
set_option maxHeartbeats 4000000 in
set_option maxRecDepth 100000 in
theorem c_growRow (l : Launch) (D : va_G) (cI cB : ClassId) (z : Nat) (so : Nat) (tg : Nat) (g : Nat) (o : Nat) (rf : Nat) (lt : Nat) (ro : Nat) (al : Nat) (ir : Nat) (ia : Nat) (la : Int32) (at_ : Nat) (n0 : Nat) (k : Nat) (f : Nat → Int32) (h1 : 1 ≤ n0) (h0 : n0 ≤ 8000) (hk : k ≤ 8000) (hir : ir < 255) (hia : ia < k) : kC l yX3_growRow cX3_growRow 1 none 2 42 (0) (0) D cI cB [.ref z] [(z, .inr (3, [.ref so, .ref tg, .ref g, .ref o, .int (nI rf), .int (nI lt), .int (nI ro), .int (nI al), .int (nI ir), .int (nI ia), .int la])), (tg, .inr (1, [.int (nI 8000), .ref at_, .int (nI k)])), (at_, .inl (cI, (gc n0 k), .inl f))] (fun (vV : Option Value) (uU : va_W) => vV = none ∧ uU = [(z, .inr (3, [.ref so, .ref tg, .ref g, .ref o, .int (nI rf), .int (nI lt), .int (nI ro), .int (nI al), .int (nI (ir + 1)), .int (nI ia), .int la])), (tg, .inr (1, [.int (nI 8000), .ref at_, .int (nI k)])), (at_, .inl (cI, (gc n0 k), .inl (upd f ia (nI (ir + 1)))))]) := by
  refine k_entry (lv0 := [(0, .ref z)]) (by decide) (Nat.le_of_ble_eq_true rfl) rfl ?_
  intro zp ze zs zm zb zt zc zA X hr hin
  have hg := gc_ok h1 h0 k hk
  refine k_aload_n X dX3_growRow_0 rfl 0 rfl ?_
  refine k_dup X dX3_growRow_1 rfl ?_
  refine k_get (v := .int (nI ir)) X 0 3 8 rfl rfl (by decide) fl_X3_82 in_X3 rfl rfl dX3_growRow_2 ?_
  refine k_iconst (v := 1) X dX3_growRow_5 (by decide) ?_
  refine k_iadd X dX3_growRow_6 ?_
  refine k_as (y := nI (ir + 1)) (nI_1 _) ?_
  refine k_put (v := .int (nI (ir + 1))) (ty := .int) (ws' := [(z, .inr (3, [.ref so, .ref tg, .ref g, .ref o, .int (nI rf), .int (nI lt), .int (nI ro), .int (nI al), .int (nI (ir + 1)), .int (nI ia), .int la])), (tg, .inr (1, [.int (nI 8000), .ref at_, .int (nI k)])), (at_, .inl (cI, (gc n0 k), .inl f))]) X 0 3 8 tyX3 tyX3_ok nmX3 rfl rfl (by decide) fl_X3_82 in_X3 rfl rfl (by decide +kernel) rfl rfl (Nat.le_of_ble_eq_true rfl) rfl dX3_growRow_7 ?_
  refine k_aload_n X dX3_growRow_10 rfl 0 rfl ?_
  refine k_get (v := .ref tg) X 0 3 1 rfl rfl (by decide) fl_X3_15 in_X3 rfl rfl dX3_growRow_11 ?_
  refine k_aload_n X dX3_growRow_14 rfl 0 rfl ?_
  refine k_get (v := .int (nI ia)) X 0 3 9 rfl rfl (by decide) fl_X3_85 in_X3 rfl rfl dX3_growRow_15 ?_
  refine k_aload_n X dX3_growRow_18 rfl 0 rfl ?_
  refine k_get (v := .int (nI (ir + 1))) X 0 3 8 rfl rfl (by decide) fl_X3_82 in_X3 rfl rfl dX3_growRow_19 ?_
  refine k_callV (wc := [(tg, .inr (1, [.int (nI 8000), .ref at_, .int (nI k)])), (at_, .inl (cI, (gc n0 k), .inl f))]) (wr := [(z, .inr (3, [.ref so, .ref tg, .ref g, .ref o, .int (nI rf), .int (nI lt), .int (nI ro), .int (nI al), .int (nI (ir + 1)), .int (nI ia), .int la]))]) (As := [.int (nI ia), .int (nI (ir + 1))]) (n := 2) (st := []) (q0 := 0) X (c_set l D cI cB tg at_ 8000 k (gc n0 k) f (nI ia) (nI (ir + 1)) (hg.1) (hg.2.1) (by omega)) rfl rfl ml_X3_118 im_X1_set se_X1_set ini_X1 co_X1_set (by decide +kernel) rfl ⟨Nat.le_of_ble_eq_true rfl, Nat.le_of_ble_eq_true rfl⟩ (⟨by (try dsimp only); omega, by (try dsimp only); omega⟩) (Nat.le_of_ble_eq_true rfl) [1, 2] [0] rfl rfl rfl (by decide) (by decide) (by decide) rfl dX3_growRow_22 (fun v_22 u_22 hu_22 => ?_)
  obtain ⟨rfl, rfl⟩ := hu_22
  refine k_to (ws' := [(z, .inr (3, [.ref so, .ref tg, .ref g, .ref o, .int (nI rf), .int (nI lt), .int (nI ro), .int (nI al), .int (nI (ir + 1)), .int (nI ia), .int la])), (tg, .inr (1, [.int (nI 8000), .ref at_, .int (nI k)])), (at_, .inl (cI, (gc n0 k), .inl (rSet f k (nI ia) (nI (ir + 1)))))]) (st' := [.int (b2i (decide (rIn (nI ia) k ∧ rByte (nI (ir + 1)))))]) rfl rfl ?_
  refine k_pop X dX3_growRow_25 rfl ?_
  exact k_vret (u := [(z, .inr (3, [.ref so, .ref tg, .ref g, .ref o, .int (nI rf), .int (nI lt), .int (nI ro), .int (nI al), .int (nI (ir + 1)), .int (nI ia), .int la])), (tg, .inr (1, [.int (nI 8000), .ref at_, .int (nI k)])), (at_, .inl (cI, (gc n0 k), .inl (rSet f k (nI ia) (nI (ir + 1)))))]) X hr [0, 1, 2] (by decide) rfl rfl (⟨rfl, by rw [rSet_nI hia (by omega) (rByte_nI (by omega))]⟩) (by (try dsimp only); omega) (by (try dsimp only); omega) dX3_growRow_26
set_option maxHeartbeats 4000000 in
set_option maxRecDepth 100000 in
theorem c_openRow (l : Launch) (D : va_G) (cI cB : ClassId) (z : Nat) (so : Nat) (tg : Nat) (g : Nat) (o : Nat) (rf : Nat) (lt : Nat) (ro : Nat) (al : Nat) (ir : Nat) (ia : Nat) (la : Int32) (at_ : Nat) (n0 : Nat) (k : Nat) (f : Nat → Int32) (h1 : 1 ≤ n0) (h0 : n0 ≤ 8000) (hk : k < 8000) : kC l yX3_openRow cX3_openRow 1 none 4 104 (rCost 8000 (gc n0 k) (k + 1)) (rCost 8000 (gc n0 k) (k + 1)) D cI cB [.ref z] [(z, .inr (3, [.ref so, .ref tg, .ref g, .ref o, .int (nI rf), .int (nI lt), .int (nI ro), .int (nI al), .int (nI ir), .int (nI ia), .int la])), (tg, .inr (1, [.int (nI 8000), .ref at_, .int (nI k)])), (at_, .inl (cI, (gc n0 k), .inl f))] (fun (vV : Option Value) (uU : va_W) => ∃ (a2 : Nat) (f2 : Nat → Int32), vV = none ∧ uU = [(z, .inr (3, [.ref so, .ref tg, .ref g, .ref o, .int (nI rf), .int (nI lt), .int (nI (ro + 1)), .int (nI al), .int (nI 1), .int (nI k), .int la])), (tg, .inr (1, [.int (nI 8000), .ref a2, .int (nI (k + 1))])), (a2, .inl (cI, (gc n0 (k + 1)), .inl f2))] ∧ (f2 k = 1) ∧ (∀ j, j < k → f2 j = f j)) := by
  refine k_entry (lv0 := [(0, .ref z)]) (by decide) (Nat.le_of_ble_eq_true rfl) rfl ?_
  intro zp ze zs zm zb zt zc zA X hr hin
  have hg := gc_ok h1 h0 k (by omega)
  refine k_aload_n X dX3_openRow_0 rfl 0 rfl ?_
  refine k_iconst (v := 1) X dX3_openRow_1 (by decide) ?_
  refine k_put (v := .int 1) (ty := .int) (ws' := [(z, .inr (3, [.ref so, .ref tg, .ref g, .ref o, .int (nI rf), .int (nI lt), .int (nI ro), .int (nI al), .int 1, .int (nI ia), .int la])), (tg, .inr (1, [.int (nI 8000), .ref at_, .int (nI k)])), (at_, .inl (cI, (gc n0 k), .inl f))]) X 0 3 8 tyX3 tyX3_ok nmX3 rfl rfl (by decide) fl_X3_82 in_X3 rfl rfl (by decide +kernel) rfl rfl (Nat.le_of_ble_eq_true rfl) rfl dX3_openRow_2 ?_
  refine k_aload_n X dX3_openRow_5 rfl 0 rfl ?_
  refine k_aload_n X dX3_openRow_6 rfl 0 rfl ?_
  refine k_get (v := .ref tg) X 0 3 1 rfl rfl (by decide) fl_X3_15 in_X3 rfl rfl dX3_openRow_7 ?_
  refine k_callV (wc := [(tg, .inr (1, [.int (nI 8000), .ref at_, .int (nI k)]))]) (wr := [(z, .inr (3, [.ref so, .ref tg, .ref g, .ref o, .int (nI rf), .int (nI lt), .int (nI ro), .int (nI al), .int 1, .int (nI ia), .int la])), (at_, .inl (cI, (gc n0 k), .inl f))]) (As := []) (n := 0) (st := [.ref z]) (q0 := 0) X (c_length l D cI cB tg at_ 8000 k ) rfl rfl ml_X3_53 im_X1_length se_X1_length ini_X1 co_X1_length (by decide +kernel) rfl ⟨Nat.le_of_ble_eq_true rfl, Nat.le_of_ble_eq_true rfl⟩ (⟨by (try dsimp only); omega, by (try dsimp only); omega⟩) (Nat.le_of_ble_eq_true rfl) [1] [0, 2] rfl rfl rfl (by decide) (by decide) (by decide) rfl dX3_openRow_10 (fun v_10 u_10 hu_10 => ?_)
  obtain ⟨rfl, rfl⟩ := hu_10
  refine k_to (ws' := [(z, .inr (3, [.ref so, .ref tg, .ref g, .ref o, .int (nI rf), .int (nI lt), .int (nI ro), .int (nI al), .int 1, .int (nI ia), .int la])), (at_, .inl (cI, (gc n0 k), .inl f)), (tg, .inr (1, [.int (nI 8000), .ref at_, .int (nI k)]))]) (st' := [.int (nI k), .ref z]) rfl rfl ?_
  refine k_put (v := .int (nI k)) (ty := .int) (ws' := [(z, .inr (3, [.ref so, .ref tg, .ref g, .ref o, .int (nI rf), .int (nI lt), .int (nI ro), .int (nI al), .int 1, .int (nI k), .int la])), (at_, .inl (cI, (gc n0 k), .inl f)), (tg, .inr (1, [.int (nI 8000), .ref at_, .int (nI k)]))]) X 0 3 9 tyX3 tyX3_ok nmX3 rfl rfl (by decide) fl_X3_85 in_X3 rfl rfl (by decide +kernel) rfl rfl (Nat.le_of_ble_eq_true rfl) rfl dX3_openRow_13 ?_
  refine k_aload_n X dX3_openRow_16 rfl 0 rfl ?_
  refine k_get (v := .ref tg) X 0 3 1 rfl rfl (by decide) fl_X3_15 in_X3 rfl rfl dX3_openRow_17 ?_
  refine k_aload_n X dX3_openRow_20 rfl 0 rfl ?_
  refine k_get (v := .int 1) X 0 3 8 rfl rfl (by decide) fl_X3_82 in_X3 rfl rfl dX3_openRow_21 ?_
  refine k_callV (wc := [(tg, .inr (1, [.int (nI 8000), .ref at_, .int (nI k)])), (at_, .inl (cI, (gc n0 k), .inl f))]) (wr := [(z, .inr (3, [.ref so, .ref tg, .ref g, .ref o, .int (nI rf), .int (nI lt), .int (nI ro), .int (nI al), .int 1, .int (nI k), .int la]))]) (As := [.int 1]) (n := 1) (st := []) (q0 := 0) X (c_add l D cI cB tg at_ 8000 k (gc n0 k) f 1 (hg.1) (hg.2.1) (by omega) (hg.2.2) (by omega) (byte1)) rfl rfl ml_X3_112 im_X1_add se_X1_add ini_X1 co_X1_add (by decide +kernel) rfl ⟨Nat.le_of_ble_eq_true rfl, Nat.le_of_ble_eq_true rfl⟩ (⟨by (try dsimp only); omega, by (try dsimp only); omega⟩) (Nat.le_of_ble_eq_true rfl) [2, 1] [0] rfl rfl rfl (by decide) (by decide) (by decide) rfl dX3_openRow_24 (fun v_24 u_24 hu_24 => ?_)
  obtain ⟨a3, f3, rfl, rfl, hf3, hf4⟩ := hu_24
  refine k_to (ws' := [(z, .inr (3, [.ref so, .ref tg, .ref g, .ref o, .int (nI rf), .int (nI lt), .int (nI ro), .int (nI al), .int 1, .int (nI k), .int la])), (tg, .inr (1, [.int (nI 8000), .ref a3, .int (nI (k + 1))])), (a3, .inl (cI, rCap 8000 (gc n0 k) (k + 1), .inl f3))]) (st' := [.int 1]) rfl rfl ?_
  refine k_ws (ws' := [(z, .inr (3, [.ref so, .ref tg, .ref g, .ref o, .int (nI rf), .int (nI lt), .int (nI ro), .int (nI al), .int 1, .int (nI k), .int la])), (tg, .inr (1, [.int (nI 8000), .ref a3, .int (nI (k + 1))])), (a3, .inl (cI, (gc n0 (k + 1)), .inl f3))]) rfl ?_
  refine k_pop X dX3_openRow_27 rfl ?_
  refine k_aload_n X dX3_openRow_28 rfl 0 rfl ?_
  refine k_dup X dX3_openRow_29 rfl ?_
  refine k_get (v := .int (nI ro)) X 0 3 6 rfl rfl (by decide) fl_X3_36 in_X3 rfl rfl dX3_openRow_30 ?_
  refine k_iconst (v := 1) X dX3_openRow_33 (by decide) ?_
  refine k_iadd X dX3_openRow_34 ?_
  refine k_as (y := nI (ro + 1)) (nI_1 _) ?_
  refine k_put (v := .int (nI (ro + 1))) (ty := .int) (ws' := [(z, .inr (3, [.ref so, .ref tg, .ref g, .ref o, .int (nI rf), .int (nI lt), .int (nI (ro + 1)), .int (nI al), .int 1, .int (nI k), .int la])), (tg, .inr (1, [.int (nI 8000), .ref a3, .int (nI (k + 1))])), (a3, .inl (cI, (gc n0 (k + 1)), .inl f3))]) X 0 3 6 tyX3 tyX3_ok nmX3 rfl rfl (by decide) fl_X3_36 in_X3 rfl rfl (by decide +kernel) rfl rfl (Nat.le_of_ble_eq_true rfl) rfl dX3_openRow_35 ?_
  exact k_vret (u := [(z, .inr (3, [.ref so, .ref tg, .ref g, .ref o, .int (nI rf), .int (nI lt), .int (nI (ro + 1)), .int (nI al), .int 1, .int (nI k), .int la])), (tg, .inr (1, [.int (nI 8000), .ref a3, .int (nI (k + 1))])), (a3, .inl (cI, (gc n0 (k + 1)), .inl f3))]) X hr [0, 1, 2] (by decide) rfl rfl (⟨a3, f3, rfl, rfl, hf3, hf4⟩) (by (try dsimp only); omega) (by (try dsimp only); omega) dX3_openRow_38
set_option maxHeartbeats 4000000 in
set_option maxRecDepth 100000 in
theorem c_wLit_g (l : Launch) (D : va_G) (cI cB : ClassId) (z : Nat) (so : Nat) (tg : Nat) (g : Nat) (o : Nat) (rf : Nat) (lt : Nat) (ro : Nat) (al : Nat) (ir : Nat) (ia : Nat) (at_ : Nat) (n0 : Nat) (k : Nat) (f : Nat → Int32) (b : Int32) (h1 : 1 ≤ n0) (h0 : n0 ≤ 8000) (hk : k < 8000) (hir : 0 < ir ∧ ir < 255) (hia : ia < k) (hb : rByte b) : kC l yX3_writeLiteral cX3_writeLiteral 3 none 4 104 (rCost 8000 (gc n0 k) (k + 1)) (rCost 8000 (gc n0 k) (k + 1)) D cI cB [.ref z, .int b] [(z, .inr (3, [.ref so, .ref tg, .ref g, .ref o, .int (nI rf), .int (nI lt), .int (nI ro), .int (nI al), .int (nI ir), .int (nI ia), .int (-1)])), (tg, .inr (1, [.int (nI 8000), .ref at_, .int (nI k)])), (at_, .inl (cI, (gc n0 k), .inl f))] (fun (vV : Option Value) (uU : va_W) => ∃ (a2 : Nat) (f2 : Nat → Int32), vV = none ∧ uU = [(z, .inr (3, [.ref so, .ref tg, .ref g, .ref o, .int (nI rf), .int (nI (lt + 1)), .int (nI ro), .int (nI al), .int (nI (ir + 1)), .int (nI ia), .int (-1)])), (tg, .inr (1, [.int (nI 8000), .ref a2, .int (nI (k + 1))])), (a2, .inl (cI, (gc n0 (k + 1)), .inl f2))] ∧ (∀ j, j < k + 1 → f2 j = litGrow k f ia ir b j)) := by
  refine k_entry (lv0 := [(0, .ref z), (1, .int b)]) (by decide) (Nat.le_of_ble_eq_true rfl) rfl ?_
  intro zp ze zs zm zb zt zc zA X hr hin
  have hg := gc_ok h1 h0 k (by omega)
  refine k_aload_n X dX3_writeLiteral_0 rfl 0 rfl ?_
  refine k_get (v := .int (-1)) X 0 3 10 rfl rfl (by decide) fl_X3_88 in_X3 rfl rfl dX3_writeLiteral_1 ?_
  refine k_iconst (v := -1) X dX3_writeLiteral_4 (by decide) ?_
  refine k_icmp_ne (tgt := 29) (xi := (-1 : Int)) (yi := (-1 : Int)) X (by decide) (by decide) dX3_writeLiteral_5 (by decide) (fun c_5 => ?_) (fun c_5 => ?_)
  · exact absurd c_5 (by decide)
  · refine k_aload_n X dX3_writeLiteral_8 rfl 0 rfl ?_
    refine k_get (v := .int (nI ir)) X 0 3 8 rfl rfl (by decide) fl_X3_82 in_X3 rfl rfl dX3_writeLiteral_9 ?_
    refine k_if_le (tgt := 29) (xi := ((ir : Nat) : Int)) X (nI_toInt (by omega)) dX3_writeLiteral_12 (by decide) (fun c_12 => ?_) (fun c_12 => ?_)
    · exact absurd c_12 (by omega)
    · refine k_aload_n X dX3_writeLiteral_15 rfl 0 rfl ?_
      refine k_get (v := .int (nI ir)) X 0 3 8 rfl rfl (by decide) fl_X3_82 in_X3 rfl rfl dX3_writeLiteral_16 ?_
      refine k_sipush (v := 255) X dX3_writeLiteral_19 (by decide) ?_
      refine k_icmp_ge (tgt := 29) (xi := ((ir : Nat) : Int)) (yi := (255 : Int)) X (nI_toInt (by omega)) (by decide) dX3_writeLiteral_22 (by decide) (fun c_22 => ?_) (fun c_22 => ?_)
      · exact absurd c_22 (by omega)
      · refine k_iconst (v := 1) X dX3_writeLiteral_25 (by decide) ?_
        refine k_goto (tgt := 30) X dX3_writeLiteral_26 (by decide) ?_
        refine k_istore_n (lv' := [(2, .int 1), (0, .ref z), (1, .int b)]) X dX3_writeLiteral_30 rfl (by decide) rfl ?_
        refine k_iload_n X dX3_writeLiteral_31 rfl 0 rfl ?_
        refine k_if_eq (tgt := 42) (xi := (1 : Int)) X (by decide) dX3_writeLiteral_32 (by decide) (fun c_32 => ?_) (fun c_32 => ?_)
        · exact absurd c_32 (by decide)
        · refine k_aload_n X dX3_writeLiteral_35 rfl 1 rfl ?_
          refine k_callV (wc := [(z, .inr (3, [.ref so, .ref tg, .ref g, .ref o, .int (nI rf), .int (nI lt), .int (nI ro), .int (nI al), .int (nI ir), .int (nI ia), .int (-1)])), (tg, .inr (1, [.int (nI 8000), .ref at_, .int (nI k)])), (at_, .inl (cI, (gc n0 k), .inl f))]) (wr := []) (As := []) (n := 0) (st := []) (q0 := 0) X (c_growRow l D cI cB z so tg g o rf lt ro al ir ia (-1) at_ n0 k f (h1) (h0) (by omega) (by omega) (hia)) rfl rfl ml_X3_109 im_X3_growRow se_X3_growRow ini_X3 co_X3_growRow (by decide +kernel) rfl ⟨Nat.le_of_ble_eq_true rfl, Nat.le_of_ble_eq_true rfl⟩ (⟨by (try dsimp only); omega, by (try dsimp only); omega⟩) (Nat.le_of_ble_eq_true rfl) [0, 1, 2] [] rfl rfl rfl (by decide) (by decide) (by decide) rfl dX3_writeLiteral_36 (fun v_36 u_36 hu_36 => ?_)
          obtain ⟨rfl, rfl⟩ := hu_36
          refine k_to (ws' := [(z, .inr (3, [.ref so, .ref tg, .ref g, .ref o, .int (nI rf), .int (nI lt), .int (nI ro), .int (nI al), .int (nI (ir + 1)), .int (nI ia), .int (-1)])), (tg, .inr (1, [.int (nI 8000), .ref at_, .int (nI k)])), (at_, .inl (cI, (gc n0 k), .inl (upd f ia (nI (ir + 1)))))]) (st' := []) rfl rfl ?_
          refine k_goto (tgt := 55) X dX3_writeLiteral_39 (by decide) ?_
          refine k_aload_n X dX3_writeLiteral_55 rfl 1 rfl ?_
          refine k_get (v := .ref tg) X 0 3 1 rfl rfl (by decide) fl_X3_15 in_X3 rfl rfl dX3_writeLiteral_56 ?_
          refine k_iload_n X dX3_writeLiteral_59 rfl 2 rfl ?_
          refine k_callV (wc := [(tg, .inr (1, [.int (nI 8000), .ref at_, .int (nI k)])), (at_, .inl (cI, (gc n0 k), .inl (upd f ia (nI (ir + 1)))))]) (wr := [(z, .inr (3, [.ref so, .ref tg, .ref g, .ref o, .int (nI rf), .int (nI lt), .int (nI ro), .int (nI al), .int (nI (ir + 1)), .int (nI ia), .int (-1)]))]) (As := [.int b]) (n := 1) (st := []) (q0 := 0) X (c_add l D cI cB tg at_ 8000 k (gc n0 k) (upd f ia (nI (ir + 1))) b (hg.1) (hg.2.1) (by omega) (hg.2.2) (by omega) (hb)) rfl rfl ml_X3_112 im_X1_add se_X1_add ini_X1 co_X1_add (by decide +kernel) rfl ⟨Nat.le_of_ble_eq_true rfl, Nat.le_of_ble_eq_true rfl⟩ (⟨by (try dsimp only); omega, by (try dsimp only); omega⟩) (Nat.le_of_ble_eq_true rfl) [1, 2] [0] rfl rfl rfl (by decide) (by decide) (by decide) rfl dX3_writeLiteral_60 (fun v_60 u_60 hu_60 => ?_)
          obtain ⟨a3, f3, rfl, rfl, hf3, hf4⟩ := hu_60
          refine k_to (ws' := [(z, .inr (3, [.ref so, .ref tg, .ref g, .ref o, .int (nI rf), .int (nI lt), .int (nI ro), .int (nI al), .int (nI (ir + 1)), .int (nI ia), .int (-1)])), (tg, .inr (1, [.int (nI 8000), .ref a3, .int (nI (k + 1))])), (a3, .inl (cI, rCap 8000 (gc n0 k) (k + 1), .inl f3))]) (st' := [.int 1]) rfl rfl ?_
          refine k_ws (ws' := [(z, .inr (3, [.ref so, .ref tg, .ref g, .ref o, .int (nI rf), .int (nI lt), .int (nI ro), .int (nI al), .int (nI (ir + 1)), .int (nI ia), .int (-1)])), (tg, .inr (1, [.int (nI 8000), .ref a3, .int (nI (k + 1))])), (a3, .inl (cI, (gc n0 (k + 1)), .inl f3))]) rfl ?_
          refine k_pop X dX3_writeLiteral_63 rfl ?_
          refine k_aload_n X dX3_writeLiteral_64 rfl 1 rfl ?_
          refine k_dup X dX3_writeLiteral_65 rfl ?_
          refine k_get (v := .int (nI lt)) X 0 3 5 rfl rfl (by decide) fl_X3_33 in_X3 rfl rfl dX3_writeLiteral_66 ?_
          refine k_iconst (v := 1) X dX3_writeLiteral_69 (by decide) ?_
          refine k_iadd X dX3_writeLiteral_70 ?_
          refine k_as (y := nI (lt + 1)) (nI_1 _) ?_
          refine k_put (v := .int (nI (lt + 1))) (ty := .int) (ws' := [(z, .inr (3, [.ref so, .ref tg, .ref g, .ref o, .int (nI rf), .int (nI (lt + 1)), .int (nI ro), .int (nI al), .int (nI (ir + 1)), .int (nI ia), .int (-1)])), (tg, .inr (1, [.int (nI 8000), .ref a3, .int (nI (k + 1))])), (a3, .inl (cI, (gc n0 (k + 1)), .inl f3))]) X 0 3 5 tyX3 tyX3_ok nmX3 rfl rfl (by decide) fl_X3_33 in_X3 rfl rfl (by decide +kernel) rfl rfl (Nat.le_of_ble_eq_true rfl) rfl dX3_writeLiteral_71 ?_
          refine k_aload_n X dX3_writeLiteral_74 rfl 1 rfl ?_
          refine k_iconst (v := -1) X dX3_writeLiteral_75 (by decide) ?_
          refine k_put (v := .int (-1)) (ty := .int) (ws' := [(z, .inr (3, [.ref so, .ref tg, .ref g, .ref o, .int (nI rf), .int (nI (lt + 1)), .int (nI ro), .int (nI al), .int (nI (ir + 1)), .int (nI ia), .int (-1)])), (tg, .inr (1, [.int (nI 8000), .ref a3, .int (nI (k + 1))])), (a3, .inl (cI, (gc n0 (k + 1)), .inl f3))]) X 0 3 10 tyX3 tyX3_ok nmX3 rfl rfl (by decide) fl_X3_88 in_X3 rfl rfl (by decide +kernel) rfl rfl (Nat.le_of_ble_eq_true rfl) rfl dX3_writeLiteral_76 ?_
          exact k_vret (u := [(z, .inr (3, [.ref so, .ref tg, .ref g, .ref o, .int (nI rf), .int (nI (lt + 1)), .int (nI ro), .int (nI al), .int (nI (ir + 1)), .int (nI ia), .int (-1)])), (tg, .inr (1, [.int (nI 8000), .ref a3, .int (nI (k + 1))])), (a3, .inl (cI, (gc n0 (k + 1)), .inl f3))]) X hr [0, 1, 2] (by decide) rfl rfl (⟨a3, f3, rfl, rfl, agr_push (fun _ _ => rfl) hf3 hf4⟩) (by (try dsimp only); omega) (by (try dsimp only); omega) dX3_writeLiteral_79
set_option maxHeartbeats 4000000 in
set_option maxRecDepth 100000 in
theorem c_wLit_o (l : Launch) (D : va_G) (cI cB : ClassId) (z : Nat) (so : Nat) (tg : Nat) (g : Nat) (o : Nat) (rf : Nat) (lt : Nat) (ro : Nat) (al : Nat) (ir : Nat) (ia : Nat) (la : Int32) (at_ : Nat) (n0 : Nat) (k : Nat) (f : Nat → Int32) (b : Int32) (h1 : 1 ≤ n0) (h0 : n0 ≤ 8000) (hk : k + 3 ≤ 8000) (hng : ¬ (la.toInt = -1 ∧ 0 < ir ∧ ir < 255)) (hir : ir ≤ 255) (hb : rByte b) : kC l yX3_writeLiteral cX3_writeLiteral 3 none 5 124 (rCost 8000 (gc n0 k) (k + 1) + rCost 8000 (gc n0 (k + 1)) (k + 1 + 1) + rCost 8000 (gc n0 (k + 1 + 1)) (k + 1 + 1 + 1)) (rCost 8000 (gc n0 k) (k + 1) + rCost 8000 (gc n0 (k + 1)) (k + 1 + 1) + rCost 8000 (gc n0 (k + 1 + 1)) (k + 1 + 1 + 1)) D cI cB [.ref z, .int b] [(z, .inr (3, [.ref so, .ref tg, .ref g, .ref o, .int (nI rf), .int (nI lt), .int (nI ro), .int (nI al), .int (nI ir), .int (nI ia), .int la])), (tg, .inr (1, [.int (nI 8000), .ref at_, .int (nI k)])), (at_, .inl (cI, (gc n0 k), .inl f))] (fun (vV : Option Value) (uU : va_W) => ∃ (a2 : Nat) (f2 : Nat → Int32), vV = none ∧ uU = [(z, .inr (3, [.ref so, .ref tg, .ref g, .ref o, .int (nI rf), .int (nI (lt + 1)), .int (nI (ro + 1)), .int (nI al), .int (nI 1), .int (nI (k + 1)), .int (-1)])), (tg, .inr (1, [.int (nI 8000), .ref a2, .int (nI (k + 3))])), (a2, .inl (cI, (gc n0 (k + 3)), .inl f2))] ∧ (∀ j, j < k + 3 → f2 j = litOpen k f b j)) := by
  refine k_entry (lv0 := [(0, .ref z), (1, .int b)]) (by decide) (Nat.le_of_ble_eq_true rfl) rfl ?_
  intro zp ze zs zm zb zt zc zA X hr hin
  have hg := gc_ok h1 h0 k (by omega); have hg1 := gc_ok h1 h0 (k + 1) (by omega); have hg2 := gc_ok h1 h0 (k + 2) (by omega)
  refine k_aload_n X dX3_writeLiteral_0 rfl 0 rfl ?_
  refine k_get (v := .int la) X 0 3 10 rfl rfl (by decide) fl_X3_88 in_X3 rfl rfl dX3_writeLiteral_1 ?_
  refine k_iconst (v := -1) X dX3_writeLiteral_4 (by decide) ?_
  refine k_icmp_ne (tgt := 29) (xi := la.toInt) (yi := (-1 : Int)) X (rfl) (by decide) dX3_writeLiteral_5 (by decide) (fun c_5 => ?_) (fun c_5 => ?_)
  · refine k_iconst (v := 0) X dX3_writeLiteral_29 (by decide) ?_
    refine k_istore_n (lv' := [(2, .int 0), (0, .ref z), (1, .int b)]) X dX3_writeLiteral_30 rfl (by decide) rfl ?_
    refine k_iload_n X dX3_writeLiteral_31 rfl 0 rfl ?_
    refine k_if_eq (tgt := 42) (xi := (0 : Int)) X (by decide) dX3_writeLiteral_32 (by decide) (fun c_32 => ?_) (fun c_32 => ?_)
    · refine k_aload_n X dX3_writeLiteral_42 rfl 1 rfl ?_
      refine k_get (v := .ref tg) X 0 3 1 rfl rfl (by decide) fl_X3_15 in_X3 rfl rfl dX3_writeLiteral_43 ?_
      refine k_iconst (v := 0) X dX3_writeLiteral_46 (by decide) ?_
      refine k_callV (wc := [(tg, .inr (1, [.int (nI 8000), .ref at_, .int (nI k)])), (at_, .inl (cI, (gc n0 k), .inl f))]) (wr := [(z, .inr (3, [.ref so, .ref tg, .ref g, .ref o, .int (nI rf), .int (nI lt), .int (nI ro), .int (nI al), .int (nI ir), .int (nI ia), .int la]))]) (As := [.int 0]) (n := 1) (st := []) (q0 := 0) X (c_add l D cI cB tg at_ 8000 k (gc n0 k) f 0 (hg.1) (hg.2.1) (by omega) (hg.2.2) (by omega) (byte0)) rfl rfl ml_X3_112 im_X1_add se_X1_add ini_X1 co_X1_add (by decide +kernel) rfl ⟨Nat.le_of_ble_eq_true rfl, Nat.le_of_ble_eq_true rfl⟩ (⟨by (try dsimp only); omega, by (try dsimp only); omega⟩) (Nat.le_of_ble_eq_true rfl) [1, 2] [0] rfl rfl rfl (by decide) (by decide) (by decide) rfl dX3_writeLiteral_47 (fun v_47 u_47 hu_47 => ?_)
      obtain ⟨a3, f3, rfl, rfl, hf3, hf4⟩ := hu_47
      refine k_to (ws' := [(z, .inr (3, [.ref so, .ref tg, .ref g, .ref o, .int (nI rf), .int (nI lt), .int (nI ro), .int (nI al), .int (nI ir), .int (nI ia), .int la])), (tg, .inr (1, [.int (nI 8000), .ref a3, .int (nI (k + 1))])), (a3, .inl (cI, rCap 8000 (gc n0 k) (k + 1), .inl f3))]) (st' := [.int 1]) rfl rfl ?_
      refine k_ws (ws' := [(z, .inr (3, [.ref so, .ref tg, .ref g, .ref o, .int (nI rf), .int (nI lt), .int (nI ro), .int (nI al), .int (nI ir), .int (nI ia), .int la])), (tg, .inr (1, [.int (nI 8000), .ref a3, .int (nI (k + 1))])), (a3, .inl (cI, (gc n0 (k + 1)), .inl f3))]) rfl ?_
      refine k_pop X dX3_writeLiteral_50 rfl ?_
      refine k_aload_n X dX3_writeLiteral_51 rfl 1 rfl ?_
      refine k_callV (wc := [(z, .inr (3, [.ref so, .ref tg, .ref g, .ref o, .int (nI rf), .int (nI lt), .int (nI ro), .int (nI al), .int (nI ir), .int (nI ia), .int la])), (tg, .inr (1, [.int (nI 8000), .ref a3, .int (nI (k + 1))])), (a3, .inl (cI, (gc n0 (k + 1)), .inl f3))]) (wr := []) (As := []) (n := 0) (st := []) (q0 := 0) X (c_openRow l D cI cB z so tg g o rf lt ro al ir ia la a3 n0 (k + 1) f3 (h1) (h0) (by omega)) rfl rfl ml_X3_115 im_X3_openRow se_X3_openRow ini_X3 co_X3_openRow (by decide +kernel) rfl ⟨Nat.le_of_ble_eq_true rfl, Nat.le_of_ble_eq_true rfl⟩ (⟨by (try dsimp only); omega, by (try dsimp only); omega⟩) (Nat.le_of_ble_eq_true rfl) [0, 1, 2] [] rfl rfl rfl (by decide) (by decide) (by decide) rfl dX3_writeLiteral_52 (fun v_52 u_52 hu_52 => ?_)
      obtain ⟨a4, f4, rfl, rfl, hf5, hf6⟩ := hu_52
      refine k_to (ws' := [(z, .inr (3, [.ref so, .ref tg, .ref g, .ref o, .int (nI rf), .int (nI lt), .int (nI (ro + 1)), .int (nI al), .int (nI 1), .int (nI (k + 1)), .int la])), (tg, .inr (1, [.int (nI 8000), .ref a4, .int (nI ((k + 1) + 1))])), (a4, .inl (cI, (gc n0 ((k + 1) + 1)), .inl f4))]) (st' := []) rfl rfl ?_
      refine k_aload_n X dX3_writeLiteral_55 rfl 1 rfl ?_
      refine k_get (v := .ref tg) X 0 3 1 rfl rfl (by decide) fl_X3_15 in_X3 rfl rfl dX3_writeLiteral_56 ?_
      refine k_iload_n X dX3_writeLiteral_59 rfl 2 rfl ?_
      refine k_callV (wc := [(tg, .inr (1, [.int (nI 8000), .ref a4, .int (nI ((k + 1) + 1))])), (a4, .inl (cI, (gc n0 ((k + 1) + 1)), .inl f4))]) (wr := [(z, .inr (3, [.ref so, .ref tg, .ref g, .ref o, .int (nI rf), .int (nI lt), .int (nI (ro + 1)), .int (nI al), .int (nI 1), .int (nI (k + 1)), .int la]))]) (As := [.int b]) (n := 1) (st := []) (q0 := 0) X (c_add l D cI cB tg a4 8000 ((k + 1) + 1) (gc n0 ((k + 1) + 1)) f4 b (hg2.1) (hg2.2.1) (by omega) (hg2.2.2) (by omega) (hb)) rfl rfl ml_X3_112 im_X1_add se_X1_add ini_X1 co_X1_add (by decide +kernel) rfl ⟨Nat.le_of_ble_eq_true rfl, Nat.le_of_ble_eq_true rfl⟩ (⟨by (try dsimp only); omega, by (try dsimp only); omega⟩) (Nat.le_of_ble_eq_true rfl) [1, 2] [0] rfl rfl rfl (by decide) (by decide) (by decide) rfl dX3_writeLiteral_60 (fun v_60 u_60 hu_60 => ?_)
      obtain ⟨a5, f5, rfl, rfl, hf7, hf8⟩ := hu_60
      refine k_to (ws' := [(z, .inr (3, [.ref so, .ref tg, .ref g, .ref o, .int (nI rf), .int (nI lt), .int (nI (ro + 1)), .int (nI al), .int (nI 1), .int (nI (k + 1)), .int la])), (tg, .inr (1, [.int (nI 8000), .ref a5, .int (nI (((k + 1) + 1) + 1))])), (a5, .inl (cI, rCap 8000 (gc n0 ((k + 1) + 1)) (((k + 1) + 1) + 1), .inl f5))]) (st' := [.int 1]) rfl rfl ?_
      refine k_ws (ws' := [(z, .inr (3, [.ref so, .ref tg, .ref g, .ref o, .int (nI rf), .int (nI lt), .int (nI (ro + 1)), .int (nI al), .int (nI 1), .int (nI (k + 1)), .int la])), (tg, .inr (1, [.int (nI 8000), .ref a5, .int (nI (((k + 1) + 1) + 1))])), (a5, .inl (cI, (gc n0 (k + 1 + 1 + 1)), .inl f5))]) rfl ?_
      refine k_pop X dX3_writeLiteral_63 rfl ?_
      refine k_aload_n X dX3_writeLiteral_64 rfl 1 rfl ?_
      refine k_dup X dX3_writeLiteral_65 rfl ?_
      refine k_get (v := .int (nI lt)) X 0 3 5 rfl rfl (by decide) fl_X3_33 in_X3 rfl rfl dX3_writeLiteral_66 ?_
      refine k_iconst (v := 1) X dX3_writeLiteral_69 (by decide) ?_
      refine k_iadd X dX3_writeLiteral_70 ?_
      refine k_as (y := nI (lt + 1)) (nI_1 _) ?_
      refine k_put (v := .int (nI (lt + 1))) (ty := .int) (ws' := [(z, .inr (3, [.ref so, .ref tg, .ref g, .ref o, .int (nI rf), .int (nI (lt + 1)), .int (nI (ro + 1)), .int (nI al), .int (nI 1), .int (nI (k + 1)), .int la])), (tg, .inr (1, [.int (nI 8000), .ref a5, .int (nI (((k + 1) + 1) + 1))])), (a5, .inl (cI, (gc n0 (k + 1 + 1 + 1)), .inl f5))]) X 0 3 5 tyX3 tyX3_ok nmX3 rfl rfl (by decide) fl_X3_33 in_X3 rfl rfl (by decide +kernel) rfl rfl (Nat.le_of_ble_eq_true rfl) rfl dX3_writeLiteral_71 ?_
      refine k_aload_n X dX3_writeLiteral_74 rfl 1 rfl ?_
      refine k_iconst (v := -1) X dX3_writeLiteral_75 (by decide) ?_
      refine k_put (v := .int (-1)) (ty := .int) (ws' := [(z, .inr (3, [.ref so, .ref tg, .ref g, .ref o, .int (nI rf), .int (nI (lt + 1)), .int (nI (ro + 1)), .int (nI al), .int (nI 1), .int (nI (k + 1)), .int (-1)])), (tg, .inr (1, [.int (nI 8000), .ref a5, .int (nI (((k + 1) + 1) + 1))])), (a5, .inl (cI, (gc n0 (k + 1 + 1 + 1)), .inl f5))]) X 0 3 10 tyX3 tyX3_ok nmX3 rfl rfl (by decide) fl_X3_88 in_X3 rfl rfl (by decide +kernel) rfl rfl (Nat.le_of_ble_eq_true rfl) rfl dX3_writeLiteral_76 ?_
      exact k_vret (u := [(z, .inr (3, [.ref so, .ref tg, .ref g, .ref o, .int (nI rf), .int (nI (lt + 1)), .int (nI (ro + 1)), .int (nI al), .int (nI 1), .int (nI (k + 1)), .int (-1)])), (tg, .inr (1, [.int (nI 8000), .ref a5, .int (nI (((k + 1) + 1) + 1))])), (a5, .inl (cI, (gc n0 (k + 1 + 1 + 1)), .inl f5))]) X hr [0, 1, 2] (by decide) rfl rfl (⟨a5, f5, rfl, rfl, agr_push (agr_push (agr_push (fun _ _ => rfl) hf3 hf4) hf5 hf6) hf7 hf8⟩) (by (try dsimp only); omega) (by (try dsimp only); omega) dX3_writeLiteral_79
    · exact absurd c_32 (by decide)
  · refine k_aload_n X dX3_writeLiteral_8 rfl 0 rfl ?_
    refine k_get (v := .int (nI ir)) X 0 3 8 rfl rfl (by decide) fl_X3_82 in_X3 rfl rfl dX3_writeLiteral_9 ?_
    refine k_if_le (tgt := 29) (xi := ((ir : Nat) : Int)) X (nI_toInt (by omega)) dX3_writeLiteral_12 (by decide) (fun c_12 => ?_) (fun c_12 => ?_)
    · refine k_iconst (v := 0) X dX3_writeLiteral_29 (by decide) ?_
      refine k_istore_n (lv' := [(2, .int 0), (0, .ref z), (1, .int b)]) X dX3_writeLiteral_30 rfl (by decide) rfl ?_
      refine k_iload_n X dX3_writeLiteral_31 rfl 0 rfl ?_
      refine k_if_eq (tgt := 42) (xi := (0 : Int)) X (by decide) dX3_writeLiteral_32 (by decide) (fun c_32 => ?_) (fun c_32 => ?_)
      · refine k_aload_n X dX3_writeLiteral_42 rfl 1 rfl ?_
        refine k_get (v := .ref tg) X 0 3 1 rfl rfl (by decide) fl_X3_15 in_X3 rfl rfl dX3_writeLiteral_43 ?_
        refine k_iconst (v := 0) X dX3_writeLiteral_46 (by decide) ?_
        refine k_callV (wc := [(tg, .inr (1, [.int (nI 8000), .ref at_, .int (nI k)])), (at_, .inl (cI, (gc n0 k), .inl f))]) (wr := [(z, .inr (3, [.ref so, .ref tg, .ref g, .ref o, .int (nI rf), .int (nI lt), .int (nI ro), .int (nI al), .int (nI ir), .int (nI ia), .int la]))]) (As := [.int 0]) (n := 1) (st := []) (q0 := 0) X (c_add l D cI cB tg at_ 8000 k (gc n0 k) f 0 (hg.1) (hg.2.1) (by omega) (hg.2.2) (by omega) (byte0)) rfl rfl ml_X3_112 im_X1_add se_X1_add ini_X1 co_X1_add (by decide +kernel) rfl ⟨Nat.le_of_ble_eq_true rfl, Nat.le_of_ble_eq_true rfl⟩ (⟨by (try dsimp only); omega, by (try dsimp only); omega⟩) (Nat.le_of_ble_eq_true rfl) [1, 2] [0] rfl rfl rfl (by decide) (by decide) (by decide) rfl dX3_writeLiteral_47 (fun v_47 u_47 hu_47 => ?_)
        obtain ⟨a3, f3, rfl, rfl, hf3, hf4⟩ := hu_47
        refine k_to (ws' := [(z, .inr (3, [.ref so, .ref tg, .ref g, .ref o, .int (nI rf), .int (nI lt), .int (nI ro), .int (nI al), .int (nI ir), .int (nI ia), .int la])), (tg, .inr (1, [.int (nI 8000), .ref a3, .int (nI (k + 1))])), (a3, .inl (cI, rCap 8000 (gc n0 k) (k + 1), .inl f3))]) (st' := [.int 1]) rfl rfl ?_
        refine k_ws (ws' := [(z, .inr (3, [.ref so, .ref tg, .ref g, .ref o, .int (nI rf), .int (nI lt), .int (nI ro), .int (nI al), .int (nI ir), .int (nI ia), .int la])), (tg, .inr (1, [.int (nI 8000), .ref a3, .int (nI (k + 1))])), (a3, .inl (cI, (gc n0 (k + 1)), .inl f3))]) rfl ?_
        refine k_pop X dX3_writeLiteral_50 rfl ?_
        refine k_aload_n X dX3_writeLiteral_51 rfl 1 rfl ?_
        refine k_callV (wc := [(z, .inr (3, [.ref so, .ref tg, .ref g, .ref o, .int (nI rf), .int (nI lt), .int (nI ro), .int (nI al), .int (nI ir), .int (nI ia), .int la])), (tg, .inr (1, [.int (nI 8000), .ref a3, .int (nI (k + 1))])), (a3, .inl (cI, (gc n0 (k + 1)), .inl f3))]) (wr := []) (As := []) (n := 0) (st := []) (q0 := 0) X (c_openRow l D cI cB z so tg g o rf lt ro al ir ia la a3 n0 (k + 1) f3 (h1) (h0) (by omega)) rfl rfl ml_X3_115 im_X3_openRow se_X3_openRow ini_X3 co_X3_openRow (by decide +kernel) rfl ⟨Nat.le_of_ble_eq_true rfl, Nat.le_of_ble_eq_true rfl⟩ (⟨by (try dsimp only); omega, by (try dsimp only); omega⟩) (Nat.le_of_ble_eq_true rfl) [0, 1, 2] [] rfl rfl rfl (by decide) (by decide) (by decide) rfl dX3_writeLiteral_52 (fun v_52 u_52 hu_52 => ?_)
        obtain ⟨a4, f4, rfl, rfl, hf5, hf6⟩ := hu_52
        refine k_to (ws' := [(z, .inr (3, [.ref so, .ref tg, .ref g, .ref o, .int (nI rf), .int (nI lt), .int (nI (ro + 1)), .int (nI al), .int (nI 1), .int (nI (k + 1)), .int la])), (tg, .inr (1, [.int (nI 8000), .ref a4, .int (nI ((k + 1) + 1))])), (a4, .inl (cI, (gc n0 ((k + 1) + 1)), .inl f4))]) (st' := []) rfl rfl ?_
        refine k_aload_n X dX3_writeLiteral_55 rfl 1 rfl ?_
        refine k_get (v := .ref tg) X 0 3 1 rfl rfl (by decide) fl_X3_15 in_X3 rfl rfl dX3_writeLiteral_56 ?_
        refine k_iload_n X dX3_writeLiteral_59 rfl 2 rfl ?_
        refine k_callV (wc := [(tg, .inr (1, [.int (nI 8000), .ref a4, .int (nI ((k + 1) + 1))])), (a4, .inl (cI, (gc n0 ((k + 1) + 1)), .inl f4))]) (wr := [(z, .inr (3, [.ref so, .ref tg, .ref g, .ref o, .int (nI rf), .int (nI lt), .int (nI (ro + 1)), .int (nI al), .int (nI 1), .int (nI (k + 1)), .int la]))]) (As := [.int b]) (n := 1) (st := []) (q0 := 0) X (c_add l D cI cB tg a4 8000 ((k + 1) + 1) (gc n0 ((k + 1) + 1)) f4 b (hg2.1) (hg2.2.1) (by omega) (hg2.2.2) (by omega) (hb)) rfl rfl ml_X3_112 im_X1_add se_X1_add ini_X1 co_X1_add (by decide +kernel) rfl ⟨Nat.le_of_ble_eq_true rfl, Nat.le_of_ble_eq_true rfl⟩ (⟨by (try dsimp only); omega, by (try dsimp only); omega⟩) (Nat.le_of_ble_eq_true rfl) [1, 2] [0] rfl rfl rfl (by decide) (by decide) (by decide) rfl dX3_writeLiteral_60 (fun v_60 u_60 hu_60 => ?_)
        obtain ⟨a5, f5, rfl, rfl, hf7, hf8⟩ := hu_60
        refine k_to (ws' := [(z, .inr (3, [.ref so, .ref tg, .ref g, .ref o, .int (nI rf), .int (nI lt), .int (nI (ro + 1)), .int (nI al), .int (nI 1), .int (nI (k + 1)), .int la])), (tg, .inr (1, [.int (nI 8000), .ref a5, .int (nI (((k + 1) + 1) + 1))])), (a5, .inl (cI, rCap 8000 (gc n0 ((k + 1) + 1)) (((k + 1) + 1) + 1), .inl f5))]) (st' := [.int 1]) rfl rfl ?_
        refine k_ws (ws' := [(z, .inr (3, [.ref so, .ref tg, .ref g, .ref o, .int (nI rf), .int (nI lt), .int (nI (ro + 1)), .int (nI al), .int (nI 1), .int (nI (k + 1)), .int la])), (tg, .inr (1, [.int (nI 8000), .ref a5, .int (nI (((k + 1) + 1) + 1))])), (a5, .inl (cI, (gc n0 (k + 1 + 1 + 1)), .inl f5))]) rfl ?_
        refine k_pop X dX3_writeLiteral_63 rfl ?_
        refine k_aload_n X dX3_writeLiteral_64 rfl 1 rfl ?_
        refine k_dup X dX3_writeLiteral_65 rfl ?_
        refine k_get (v := .int (nI lt)) X 0 3 5 rfl rfl (by decide) fl_X3_33 in_X3 rfl rfl dX3_writeLiteral_66 ?_
        refine k_iconst (v := 1) X dX3_writeLiteral_69 (by decide) ?_
        refine k_iadd X dX3_writeLiteral_70 ?_
        refine k_as (y := nI (lt + 1)) (nI_1 _) ?_
        refine k_put (v := .int (nI (lt + 1))) (ty := .int) (ws' := [(z, .inr (3, [.ref so, .ref tg, .ref g, .ref o, .int (nI rf), .int (nI (lt + 1)), .int (nI (ro + 1)), .int (nI al), .int (nI 1), .int (nI (k + 1)), .int la])), (tg, .inr (1, [.int (nI 8000), .ref a5, .int (nI (((k + 1) + 1) + 1))])), (a5, .inl (cI, (gc n0 (k + 1 + 1 + 1)), .inl f5))]) X 0 3 5 tyX3 tyX3_ok nmX3 rfl rfl (by decide) fl_X3_33 in_X3 rfl rfl (by decide +kernel) rfl rfl (Nat.le_of_ble_eq_true rfl) rfl dX3_writeLiteral_71 ?_
        refine k_aload_n X dX3_writeLiteral_74 rfl 1 rfl ?_
        refine k_iconst (v := -1) X dX3_writeLiteral_75 (by decide) ?_
        refine k_put (v := .int (-1)) (ty := .int) (ws' := [(z, .inr (3, [.ref so, .ref tg, .ref g, .ref o, .int (nI rf), .int (nI (lt + 1)), .int (nI (ro + 1)), .int (nI al), .int (nI 1), .int (nI (k + 1)), .int (-1)])), (tg, .inr (1, [.int (nI 8000), .ref a5, .int (nI (((k + 1) + 1) + 1))])), (a5, .inl (cI, (gc n0 (k + 1 + 1 + 1)), .inl f5))]) X 0 3 10 tyX3 tyX3_ok nmX3 rfl rfl (by decide) fl_X3_88 in_X3 rfl rfl (by decide +kernel) rfl rfl (Nat.le_of_ble_eq_true rfl) rfl dX3_writeLiteral_76 ?_
        exact k_vret (u := [(z, .inr (3, [.ref so, .ref tg, .ref g, .ref o, .int (nI rf), .int (nI (lt + 1)), .int (nI (ro + 1)), .int (nI al), .int (nI 1), .int (nI (k + 1)), .int (-1)])), (tg, .inr (1, [.int (nI 8000), .ref a5, .int (nI (((k + 1) + 1) + 1))])), (a5, .inl (cI, (gc n0 (k + 1 + 1 + 1)), .inl f5))]) X hr [0, 1, 2] (by decide) rfl rfl (⟨a5, f5, rfl, rfl, agr_push (agr_push (agr_push (fun _ _ => rfl) hf3 hf4) hf5 hf6) hf7 hf8⟩) (by (try dsimp only); omega) (by (try dsimp only); omega) dX3_writeLiteral_79
      · exact absurd c_32 (by decide)
    · refine k_aload_n X dX3_writeLiteral_15 rfl 0 rfl ?_
      refine k_get (v := .int (nI ir)) X 0 3 8 rfl rfl (by decide) fl_X3_82 in_X3 rfl rfl dX3_writeLiteral_16 ?_
      refine k_sipush (v := 255) X dX3_writeLiteral_19 (by decide) ?_
      refine k_icmp_ge (tgt := 29) (xi := ((ir : Nat) : Int)) (yi := (255 : Int)) X (nI_toInt (by omega)) (by decide) dX3_writeLiteral_22 (by decide) (fun c_22 => ?_) (fun c_22 => ?_)
      · refine k_iconst (v := 0) X dX3_writeLiteral_29 (by decide) ?_
        refine k_istore_n (lv' := [(2, .int 0), (0, .ref z), (1, .int b)]) X dX3_writeLiteral_30 rfl (by decide) rfl ?_
        refine k_iload_n X dX3_writeLiteral_31 rfl 0 rfl ?_
        refine k_if_eq (tgt := 42) (xi := (0 : Int)) X (by decide) dX3_writeLiteral_32 (by decide) (fun c_32 => ?_) (fun c_32 => ?_)
        · refine k_aload_n X dX3_writeLiteral_42 rfl 1 rfl ?_
          refine k_get (v := .ref tg) X 0 3 1 rfl rfl (by decide) fl_X3_15 in_X3 rfl rfl dX3_writeLiteral_43 ?_
          refine k_iconst (v := 0) X dX3_writeLiteral_46 (by decide) ?_
          refine k_callV (wc := [(tg, .inr (1, [.int (nI 8000), .ref at_, .int (nI k)])), (at_, .inl (cI, (gc n0 k), .inl f))]) (wr := [(z, .inr (3, [.ref so, .ref tg, .ref g, .ref o, .int (nI rf), .int (nI lt), .int (nI ro), .int (nI al), .int (nI ir), .int (nI ia), .int la]))]) (As := [.int 0]) (n := 1) (st := []) (q0 := 0) X (c_add l D cI cB tg at_ 8000 k (gc n0 k) f 0 (hg.1) (hg.2.1) (by omega) (hg.2.2) (by omega) (byte0)) rfl rfl ml_X3_112 im_X1_add se_X1_add ini_X1 co_X1_add (by decide +kernel) rfl ⟨Nat.le_of_ble_eq_true rfl, Nat.le_of_ble_eq_true rfl⟩ (⟨by (try dsimp only); omega, by (try dsimp only); omega⟩) (Nat.le_of_ble_eq_true rfl) [1, 2] [0] rfl rfl rfl (by decide) (by decide) (by decide) rfl dX3_writeLiteral_47 (fun v_47 u_47 hu_47 => ?_)
          obtain ⟨a3, f3, rfl, rfl, hf3, hf4⟩ := hu_47
          refine k_to (ws' := [(z, .inr (3, [.ref so, .ref tg, .ref g, .ref o, .int (nI rf), .int (nI lt), .int (nI ro), .int (nI al), .int (nI ir), .int (nI ia), .int la])), (tg, .inr (1, [.int (nI 8000), .ref a3, .int (nI (k + 1))])), (a3, .inl (cI, rCap 8000 (gc n0 k) (k + 1), .inl f3))]) (st' := [.int 1]) rfl rfl ?_
          refine k_ws (ws' := [(z, .inr (3, [.ref so, .ref tg, .ref g, .ref o, .int (nI rf), .int (nI lt), .int (nI ro), .int (nI al), .int (nI ir), .int (nI ia), .int la])), (tg, .inr (1, [.int (nI 8000), .ref a3, .int (nI (k + 1))])), (a3, .inl (cI, (gc n0 (k + 1)), .inl f3))]) rfl ?_
          refine k_pop X dX3_writeLiteral_50 rfl ?_
          refine k_aload_n X dX3_writeLiteral_51 rfl 1 rfl ?_
          refine k_callV (wc := [(z, .inr (3, [.ref so, .ref tg, .ref g, .ref o, .int (nI rf), .int (nI lt), .int (nI ro), .int (nI al), .int (nI ir), .int (nI ia), .int la])), (tg, .inr (1, [.int (nI 8000), .ref a3, .int (nI (k + 1))])), (a3, .inl (cI, (gc n0 (k + 1)), .inl f3))]) (wr := []) (As := []) (n := 0) (st := []) (q0 := 0) X (c_openRow l D cI cB z so tg g o rf lt ro al ir ia la a3 n0 (k + 1) f3 (h1) (h0) (by omega)) rfl rfl ml_X3_115 im_X3_openRow se_X3_openRow ini_X3 co_X3_openRow (by decide +kernel) rfl ⟨Nat.le_of_ble_eq_true rfl, Nat.le_of_ble_eq_true rfl⟩ (⟨by (try dsimp only); omega, by (try dsimp only); omega⟩) (Nat.le_of_ble_eq_true rfl) [0, 1, 2] [] rfl rfl rfl (by decide) (by decide) (by decide) rfl dX3_writeLiteral_52 (fun v_52 u_52 hu_52 => ?_)
          obtain ⟨a4, f4, rfl, rfl, hf5, hf6⟩ := hu_52
          refine k_to (ws' := [(z, .inr (3, [.ref so, .ref tg, .ref g, .ref o, .int (nI rf), .int (nI lt), .int (nI (ro + 1)), .int (nI al), .int (nI 1), .int (nI (k + 1)), .int la])), (tg, .inr (1, [.int (nI 8000), .ref a4, .int (nI ((k + 1) + 1))])), (a4, .inl (cI, (gc n0 ((k + 1) + 1)), .inl f4))]) (st' := []) rfl rfl ?_
          refine k_aload_n X dX3_writeLiteral_55 rfl 1 rfl ?_
          refine k_get (v := .ref tg) X 0 3 1 rfl rfl (by decide) fl_X3_15 in_X3 rfl rfl dX3_writeLiteral_56 ?_
          refine k_iload_n X dX3_writeLiteral_59 rfl 2 rfl ?_
          refine k_callV (wc := [(tg, .inr (1, [.int (nI 8000), .ref a4, .int (nI ((k + 1) + 1))])), (a4, .inl (cI, (gc n0 ((k + 1) + 1)), .inl f4))]) (wr := [(z, .inr (3, [.ref so, .ref tg, .ref g, .ref o, .int (nI rf), .int (nI lt), .int (nI (ro + 1)), .int (nI al), .int (nI 1), .int (nI (k + 1)), .int la]))]) (As := [.int b]) (n := 1) (st := []) (q0 := 0) X (c_add l D cI cB tg a4 8000 ((k + 1) + 1) (gc n0 ((k + 1) + 1)) f4 b (hg2.1) (hg2.2.1) (by omega) (hg2.2.2) (by omega) (hb)) rfl rfl ml_X3_112 im_X1_add se_X1_add ini_X1 co_X1_add (by decide +kernel) rfl ⟨Nat.le_of_ble_eq_true rfl, Nat.le_of_ble_eq_true rfl⟩ (⟨by (try dsimp only); omega, by (try dsimp only); omega⟩) (Nat.le_of_ble_eq_true rfl) [1, 2] [0] rfl rfl rfl (by decide) (by decide) (by decide) rfl dX3_writeLiteral_60 (fun v_60 u_60 hu_60 => ?_)
          obtain ⟨a5, f5, rfl, rfl, hf7, hf8⟩ := hu_60
          refine k_to (ws' := [(z, .inr (3, [.ref so, .ref tg, .ref g, .ref o, .int (nI rf), .int (nI lt), .int (nI (ro + 1)), .int (nI al), .int (nI 1), .int (nI (k + 1)), .int la])), (tg, .inr (1, [.int (nI 8000), .ref a5, .int (nI (((k + 1) + 1) + 1))])), (a5, .inl (cI, rCap 8000 (gc n0 ((k + 1) + 1)) (((k + 1) + 1) + 1), .inl f5))]) (st' := [.int 1]) rfl rfl ?_
          refine k_ws (ws' := [(z, .inr (3, [.ref so, .ref tg, .ref g, .ref o, .int (nI rf), .int (nI lt), .int (nI (ro + 1)), .int (nI al), .int (nI 1), .int (nI (k + 1)), .int la])), (tg, .inr (1, [.int (nI 8000), .ref a5, .int (nI (((k + 1) + 1) + 1))])), (a5, .inl (cI, (gc n0 (k + 1 + 1 + 1)), .inl f5))]) rfl ?_
          refine k_pop X dX3_writeLiteral_63 rfl ?_
          refine k_aload_n X dX3_writeLiteral_64 rfl 1 rfl ?_
          refine k_dup X dX3_writeLiteral_65 rfl ?_
          refine k_get (v := .int (nI lt)) X 0 3 5 rfl rfl (by decide) fl_X3_33 in_X3 rfl rfl dX3_writeLiteral_66 ?_
          refine k_iconst (v := 1) X dX3_writeLiteral_69 (by decide) ?_
          refine k_iadd X dX3_writeLiteral_70 ?_
          refine k_as (y := nI (lt + 1)) (nI_1 _) ?_
          refine k_put (v := .int (nI (lt + 1))) (ty := .int) (ws' := [(z, .inr (3, [.ref so, .ref tg, .ref g, .ref o, .int (nI rf), .int (nI (lt + 1)), .int (nI (ro + 1)), .int (nI al), .int (nI 1), .int (nI (k + 1)), .int la])), (tg, .inr (1, [.int (nI 8000), .ref a5, .int (nI (((k + 1) + 1) + 1))])), (a5, .inl (cI, (gc n0 (k + 1 + 1 + 1)), .inl f5))]) X 0 3 5 tyX3 tyX3_ok nmX3 rfl rfl (by decide) fl_X3_33 in_X3 rfl rfl (by decide +kernel) rfl rfl (Nat.le_of_ble_eq_true rfl) rfl dX3_writeLiteral_71 ?_
          refine k_aload_n X dX3_writeLiteral_74 rfl 1 rfl ?_
          refine k_iconst (v := -1) X dX3_writeLiteral_75 (by decide) ?_
          refine k_put (v := .int (-1)) (ty := .int) (ws' := [(z, .inr (3, [.ref so, .ref tg, .ref g, .ref o, .int (nI rf), .int (nI (lt + 1)), .int (nI (ro + 1)), .int (nI al), .int (nI 1), .int (nI (k + 1)), .int (-1)])), (tg, .inr (1, [.int (nI 8000), .ref a5, .int (nI (((k + 1) + 1) + 1))])), (a5, .inl (cI, (gc n0 (k + 1 + 1 + 1)), .inl f5))]) X 0 3 10 tyX3 tyX3_ok nmX3 rfl rfl (by decide) fl_X3_88 in_X3 rfl rfl (by decide +kernel) rfl rfl (Nat.le_of_ble_eq_true rfl) rfl dX3_writeLiteral_76 ?_
          exact k_vret (u := [(z, .inr (3, [.ref so, .ref tg, .ref g, .ref o, .int (nI rf), .int (nI (lt + 1)), .int (nI (ro + 1)), .int (nI al), .int (nI 1), .int (nI (k + 1)), .int (-1)])), (tg, .inr (1, [.int (nI 8000), .ref a5, .int (nI (((k + 1) + 1) + 1))])), (a5, .inl (cI, (gc n0 (k + 1 + 1 + 1)), .inl f5))]) X hr [0, 1, 2] (by decide) rfl rfl (⟨a5, f5, rfl, rfl, agr_push (agr_push (agr_push (fun _ _ => rfl) hf3 hf4) hf5 hf6) hf7 hf8⟩) (by (try dsimp only); omega) (by (try dsimp only); omega) dX3_writeLiteral_79
        · exact absurd c_32 (by decide)
      · exact absurd c_22 (by omega)
set_option maxHeartbeats 4000000 in
set_option maxRecDepth 100000 in
theorem c_wRef_g (l : Launch) (D : va_G) (cI cB : ClassId) (z : Nat) (so : Nat) (tg : Nat) (g : Nat) (o : Nat) (rf : Nat) (lt : Nat) (ro : Nat) (al : Nat) (ir : Nat) (ia : Nat) (at_ : Nat) (n0 : Nat) (k : Nat) (f : Nat → Int32) (lb : Nat) (h1 : 1 ≤ n0) (h0 : n0 ≤ 8000) (hk : k ≤ 8000) (hir : ir < 255) (hia : ia < k) (hlb : lb ≤ 4000) : kC l yX3_writeReference cX3_writeReference 3 none 3 62 (0) (0) D cI cB [.ref z, .int (nI (lb + 1))] [(z, .inr (3, [.ref so, .ref tg, .ref g, .ref o, .int (nI rf), .int (nI lt), .int (nI ro), .int (nI al), .int (nI ir), .int (nI ia), .int (nI lb)])), (tg, .inr (1, [.int (nI 8000), .ref at_, .int (nI k)])), (at_, .inl (cI, (gc n0 k), .inl f))] (fun (vV : Option Value) (uU : va_W) => vV = none ∧ uU = [(z, .inr (3, [.ref so, .ref tg, .ref g, .ref o, .int (nI (rf + 1)), .int (nI lt), .int (nI ro), .int (nI al), .int (nI (ir + 1)), .int (nI ia), .int (nI (lb + 1))])), (tg, .inr (1, [.int (nI 8000), .ref at_, .int (nI k)])), (at_, .inl (cI, (gc n0 k), .inl (refGrow f ia ir)))]) := by
  refine k_entry (lv0 := [(0, .ref z), (1, .int (nI (lb + 1)))]) (by decide) (Nat.le_of_ble_eq_true rfl) rfl ?_
  intro zp ze zs zm zb zt zc zA X hr hin
  have hg := gc_ok h1 h0 k (by omega)
  refine k_aload_n X dX3_writeReference_0 rfl 0 rfl ?_
  refine k_get (v := .int (nI lb)) X 0 3 10 rfl rfl (by decide) fl_X3_88 in_X3 rfl rfl dX3_writeReference_1 ?_
  refine k_iconst (v := -1) X dX3_writeReference_4 (by decide) ?_
  refine k_icmp_eq (tgt := 32) (xi := ((lb : Nat) : Int)) (yi := (-1 : Int)) X (nI_toInt (by omega)) (by decide) dX3_writeReference_5 (by decide) (fun c_5 => ?_) (fun c_5 => ?_)
  · exact absurd c_5 (by omega)
  · refine k_iload_n X dX3_writeReference_8 rfl 1 rfl ?_
    refine k_aload_n X dX3_writeReference_9 rfl 0 rfl ?_
    refine k_get (v := .int (nI lb)) X 0 3 10 rfl rfl (by decide) fl_X3_88 in_X3 rfl rfl dX3_writeReference_10 ?_
    refine k_iconst (v := 1) X dX3_writeReference_13 (by decide) ?_
    refine k_iadd X dX3_writeReference_14 ?_
    refine k_as (y := nI (lb + 1)) (nI_1 _) ?_
    refine k_icmp_ne (tgt := 32) (xi := (((lb + 1) : Nat) : Int)) (yi := (((lb + 1) : Nat) : Int)) X (nI_toInt (by omega)) (nI_toInt (by omega)) dX3_writeReference_15 (by decide) (fun c_15 => ?_) (fun c_15 => ?_)
    · exact absurd c_15 (by omega)
    · refine k_aload_n X dX3_writeReference_18 rfl 0 rfl ?_
      refine k_get (v := .int (nI ir)) X 0 3 8 rfl rfl (by decide) fl_X3_82 in_X3 rfl rfl dX3_writeReference_19 ?_
      refine k_sipush (v := 255) X dX3_writeReference_22 (by decide) ?_
      refine k_icmp_ge (tgt := 32) (xi := ((ir : Nat) : Int)) (yi := (255 : Int)) X (nI_toInt (by omega)) (by decide) dX3_writeReference_25 (by decide) (fun c_25 => ?_) (fun c_25 => ?_)
      · exact absurd c_25 (by omega)
      · refine k_iconst (v := 1) X dX3_writeReference_28 (by decide) ?_
        refine k_goto (tgt := 33) X dX3_writeReference_29 (by decide) ?_
        refine k_istore_n (lv' := [(2, .int 1), (0, .ref z), (1, .int (nI (lb + 1)))]) X dX3_writeReference_33 rfl (by decide) rfl ?_
        refine k_iload_n X dX3_writeReference_34 rfl 0 rfl ?_
        refine k_if_eq (tgt := 45) (xi := (1 : Int)) X (by decide) dX3_writeReference_35 (by decide) (fun c_35 => ?_) (fun c_35 => ?_)
        · exact absurd c_35 (by decide)
        · refine k_aload_n X dX3_writeReference_38 rfl 1 rfl ?_
          refine k_callV (wc := [(z, .inr (3, [.ref so, .ref tg, .ref g, .ref o, .int (nI rf), .int (nI lt), .int (nI ro), .int (nI al), .int (nI ir), .int (nI ia), .int (nI lb)])), (tg, .inr (1, [.int (nI 8000), .ref at_, .int (nI k)])), (at_, .inl (cI, (gc n0 k), .inl f))]) (wr := []) (As := []) (n := 0) (st := []) (q0 := 0) X (c_growRow l D cI cB z so tg g o rf lt ro al ir ia (nI lb) at_ n0 k f (h1) (h0) (by omega) (by omega) (hia)) rfl rfl ml_X3_109 im_X3_growRow se_X3_growRow ini_X3 co_X3_growRow (by decide +kernel) rfl ⟨Nat.le_of_ble_eq_true rfl, Nat.le_of_ble_eq_true rfl⟩ (⟨by (try dsimp only); omega, by (try dsimp only); omega⟩) (Nat.le_of_ble_eq_true rfl) [0, 1, 2] [] rfl rfl rfl (by decide) (by decide) (by decide) rfl dX3_writeReference_39 (fun v_39 u_39 hu_39 => ?_)
          obtain ⟨rfl, rfl⟩ := hu_39
          refine k_to (ws' := [(z, .inr (3, [.ref so, .ref tg, .ref g, .ref o, .int (nI rf), .int (nI lt), .int (nI ro), .int (nI al), .int (nI (ir + 1)), .int (nI ia), .int (nI lb)])), (tg, .inr (1, [.int (nI 8000), .ref at_, .int (nI k)])), (at_, .inl (cI, (gc n0 k), .inl (upd f ia (nI (ir + 1)))))]) (st' := []) rfl rfl ?_
          refine k_goto (tgt := 83) X dX3_writeReference_42 (by decide) ?_
          refine k_aload_n X dX3_writeReference_83 rfl 1 rfl ?_
          refine k_dup X dX3_writeReference_84 rfl ?_
          refine k_get (v := .int (nI rf)) X 0 3 4 rfl rfl (by decide) fl_X3_29 in_X3 rfl rfl dX3_writeReference_85 ?_
          refine k_iconst (v := 1) X dX3_writeReference_88 (by decide) ?_
          refine k_iadd X dX3_writeReference_89 ?_
          refine k_as (y := nI (rf + 1)) (nI_1 _) ?_
          refine k_put (v := .int (nI (rf + 1))) (ty := .int) (ws' := [(z, .inr (3, [.ref so, .ref tg, .ref g, .ref o, .int (nI (rf + 1)), .int (nI lt), .int (nI ro), .int (nI al), .int (nI (ir + 1)), .int (nI ia), .int (nI lb)])), (tg, .inr (1, [.int (nI 8000), .ref at_, .int (nI k)])), (at_, .inl (cI, (gc n0 k), .inl (upd f ia (nI (ir + 1)))))]) X 0 3 4 tyX3 tyX3_ok nmX3 rfl rfl (by decide) fl_X3_29 in_X3 rfl rfl (by decide +kernel) rfl rfl (Nat.le_of_ble_eq_true rfl) rfl dX3_writeReference_90 ?_
          refine k_aload_n X dX3_writeReference_93 rfl 1 rfl ?_
          refine k_iload_n X dX3_writeReference_94 rfl 2 rfl ?_
          refine k_put (v := .int (nI (lb + 1))) (ty := .int) (ws' := [(z, .inr (3, [.ref so, .ref tg, .ref g, .ref o, .int (nI (rf + 1)), .int (nI lt), .int (nI ro), .int (nI al), .int (nI (ir + 1)), .int (nI ia), .int (nI (lb + 1))])), (tg, .inr (1, [.int (nI 8000), .ref at_, .int (nI k)])), (at_, .inl (cI, (gc n0 k), .inl (upd f ia (nI (ir + 1)))))]) X 0 3 10 tyX3 tyX3_ok nmX3 rfl rfl (by decide) fl_X3_88 in_X3 rfl rfl (by decide +kernel) rfl rfl (Nat.le_of_ble_eq_true rfl) rfl dX3_writeReference_95 ?_
          exact k_vret (u := [(z, .inr (3, [.ref so, .ref tg, .ref g, .ref o, .int (nI (rf + 1)), .int (nI lt), .int (nI ro), .int (nI al), .int (nI (ir + 1)), .int (nI ia), .int (nI (lb + 1))])), (tg, .inr (1, [.int (nI 8000), .ref at_, .int (nI k)])), (at_, .inl (cI, (gc n0 k), .inl (upd f ia (nI (ir + 1)))))]) X hr [0, 1, 2] (by decide) rfl rfl (⟨rfl, rfl⟩) (by (try dsimp only); omega) (by (try dsimp only); omega) dX3_writeReference_98
set_option maxHeartbeats 4000000 in
set_option maxRecDepth 100000 in
theorem c_wRef_o1 (l : Launch) (D : va_G) (cI cB : ClassId) (z : Nat) (so : Nat) (tg : Nat) (g : Nat) (o : Nat) (rf : Nat) (lt : Nat) (ro : Nat) (al : Nat) (ir : Nat) (ia : Nat) (at_ : Nat) (n0 : Nat) (k : Nat) (f : Nat → Int32) (bn : Nat) (h1 : 1 ≤ n0) (h0 : n0 ≤ 8000) (hk : k + 4 ≤ 8000) (hbn : bn ≤ 2000) (hir : ir ≤ 255) : kC l yX3_writeReference cX3_writeReference 3 none 5 124 (rCost 8000 (gc n0 k) (k + 1) + rCost 8000 (gc n0 (k + 1)) (k + 1 + 1) + rCost 8000 (gc n0 (k + 1 + 1)) (k + 1 + 1 + 1) + rCost 8000 (gc n0 (k + 1 + 1 + 1)) (k + 1 + 1 + 1 + 1)) (rCost 8000 (gc n0 k) (k + 1) + rCost 8000 (gc n0 (k + 1)) (k + 1 + 1) + rCost 8000 (gc n0 (k + 1 + 1)) (k + 1 + 1 + 1) + rCost 8000 (gc n0 (k + 1 + 1 + 1)) (k + 1 + 1 + 1 + 1)) D cI cB [.ref z, .int (nI bn)] [(z, .inr (3, [.ref so, .ref tg, .ref g, .ref o, .int (nI rf), .int (nI lt), .int (nI ro), .int (nI al), .int (nI ir), .int (nI ia), .int (-1)])), (tg, .inr (1, [.int (nI 8000), .ref at_, .int (nI k)])), (at_, .inl (cI, (gc n0 k), .inl f))] (fun (vV : Option Value) (uU : va_W) => ∃ (a2 : Nat) (f2 : Nat → Int32), vV = none ∧ uU = [(z, .inr (3, [.ref so, .ref tg, .ref g, .ref o, .int (nI (rf + 1)), .int (nI lt), .int (nI (ro + 1)), .int (nI al), .int (nI 1), .int (nI (k + 3)), .int (nI bn)])), (tg, .inr (1, [.int (nI 8000), .ref a2, .int (nI (k + 4))])), (a2, .inl (cI, (gc n0 (k + 4)), .inl f2))] ∧ (∀ j, j < k + 4 → f2 j = refOpen k f bn j)) := by
  refine k_entry (lv0 := [(0, .ref z), (1, .int (nI bn))]) (by decide) (Nat.le_of_ble_eq_true rfl) rfl ?_
  intro zp ze zs zm zb zt zc zA X hr hin
  have hg := gc_ok h1 h0 k (by omega); have hg1 := gc_ok h1 h0 (k + 1) (by omega); have hg2 := gc_ok h1 h0 (k + 2) (by omega); have hg3 := gc_ok h1 h0 (k + 3) (by omega)
  refine k_aload_n X dX3_writeReference_0 rfl 0 rfl ?_
  refine k_get (v := .int (-1)) X 0 3 10 rfl rfl (by decide) fl_X3_88 in_X3 rfl rfl dX3_writeReference_1 ?_
  refine k_iconst (v := -1) X dX3_writeReference_4 (by decide) ?_
  refine k_icmp_eq (tgt := 32) (xi := (-1 : Int)) (yi := (-1 : Int)) X (by decide) (by decide) dX3_writeReference_5 (by decide) (fun c_5 => ?_) (fun c_5 => ?_)
  · refine k_iconst (v := 0) X dX3_writeReference_32 (by decide) ?_
    refine k_istore_n (lv' := [(2, .int 0), (0, .ref z), (1, .int (nI bn))]) X dX3_writeReference_33 rfl (by decide) rfl ?_
    refine k_iload_n X dX3_writeReference_34 rfl 0 rfl ?_
    refine k_if_eq (tgt := 45) (xi := (0 : Int)) X (by decide) dX3_writeReference_35 (by decide) (fun c_35 => ?_) (fun c_35 => ?_)
    · refine k_aload_n X dX3_writeReference_45 rfl 1 rfl ?_
      refine k_get (v := .ref tg) X 0 3 1 rfl rfl (by decide) fl_X3_15 in_X3 rfl rfl dX3_writeReference_46 ?_
      refine k_iconst (v := 1) X dX3_writeReference_49 (by decide) ?_
      refine k_callV (wc := [(tg, .inr (1, [.int (nI 8000), .ref at_, .int (nI k)])), (at_, .inl (cI, (gc n0 k), .inl f))]) (wr := [(z, .inr (3, [.ref so, .ref tg, .ref g, .ref o, .int (nI rf), .int (nI lt), .int (nI ro), .int (nI al), .int (nI ir), .int (nI ia), .int (-1)]))]) (As := [.int 1]) (n := 1) (st := []) (q0 := 0) X (c_add l D cI cB tg at_ 8000 k (gc n0 k) f 1 (hg.1) (hg.2.1) (by omega) (hg.2.2) (by omega) (byte1)) rfl rfl ml_X3_112 im_X1_add se_X1_add ini_X1 co_X1_add (by decide +kernel) rfl ⟨Nat.le_of_ble_eq_true rfl, Nat.le_of_ble_eq_true rfl⟩ (⟨by (try dsimp only); omega, by (try dsimp only); omega⟩) (Nat.le_of_ble_eq_true rfl) [1, 2] [0] rfl rfl rfl (by decide) (by decide) (by decide) rfl dX3_writeReference_50 (fun v_50 u_50 hu_50 => ?_)
      obtain ⟨a3, f3, rfl, rfl, hf3, hf4⟩ := hu_50
      refine k_to (ws' := [(z, .inr (3, [.ref so, .ref tg, .ref g, .ref o, .int (nI rf), .int (nI lt), .int (nI ro), .int (nI al), .int (nI ir), .int (nI ia), .int (-1)])), (tg, .inr (1, [.int (nI 8000), .ref a3, .int (nI (k + 1))])), (a3, .inl (cI, rCap 8000 (gc n0 k) (k + 1), .inl f3))]) (st' := [.int 1]) rfl rfl ?_
      refine k_ws (ws' := [(z, .inr (3, [.ref so, .ref tg, .ref g, .ref o, .int (nI rf), .int (nI lt), .int (nI ro), .int (nI al), .int (nI ir), .int (nI ia), .int (-1)])), (tg, .inr (1, [.int (nI 8000), .ref a3, .int (nI (k + 1))])), (a3, .inl (cI, (gc n0 (k + 1)), .inl f3))]) rfl ?_
      refine k_pop X dX3_writeReference_53 rfl ?_
      refine k_aload_n X dX3_writeReference_54 rfl 1 rfl ?_
      refine k_get (v := .ref tg) X 0 3 1 rfl rfl (by decide) fl_X3_15 in_X3 rfl rfl dX3_writeReference_55 ?_
      refine k_iload_n X dX3_writeReference_58 rfl 2 rfl ?_
      refine k_bipush (v := 8) X dX3_writeReference_59 (by decide) ?_
      refine k_ishr X dX3_writeReference_61 ?_
      refine k_as (y := nI (bn / 256)) (n_shr (by omega) 8 (by decide)) ?_
      refine k_callV (wc := [(tg, .inr (1, [.int (nI 8000), .ref a3, .int (nI (k + 1))])), (a3, .inl (cI, (gc n0 (k + 1)), .inl f3))]) (wr := [(z, .inr (3, [.ref so, .ref tg, .ref g, .ref o, .int (nI rf), .int (nI lt), .int (nI ro), .int (nI al), .int (nI ir), .int (nI ia), .int (-1)]))]) (As := [.int (nI (bn / 256))]) (n := 1) (st := []) (q0 := 0) X (c_add l D cI cB tg a3 8000 (k + 1) (gc n0 (k + 1)) f3 (nI (bn / 256)) (hg1.1) (hg1.2.1) (by omega) (hg1.2.2) (by omega) (rByte_nI (by omega))) rfl rfl ml_X3_112 im_X1_add se_X1_add ini_X1 co_X1_add (by decide +kernel) rfl ⟨Nat.le_of_ble_eq_true rfl, Nat.le_of_ble_eq_true rfl⟩ (⟨by (try dsimp only); omega, by (try dsimp only); omega⟩) (Nat.le_of_ble_eq_true rfl) [1, 2] [0] rfl rfl rfl (by decide) (by decide) (by decide) rfl dX3_writeReference_62 (fun v_62 u_62 hu_62 => ?_)
      obtain ⟨a4, f4, rfl, rfl, hf5, hf6⟩ := hu_62
      refine k_to (ws' := [(z, .inr (3, [.ref so, .ref tg, .ref g, .ref o, .int (nI rf), .int (nI lt), .int (nI ro), .int (nI al), .int (nI ir), .int (nI ia), .int (-1)])), (tg, .inr (1, [.int (nI 8000), .ref a4, .int (nI ((k + 1) + 1))])), (a4, .inl (cI, rCap 8000 (gc n0 (k + 1)) ((k + 1) + 1), .inl f4))]) (st' := [.int 1]) rfl rfl ?_
      refine k_ws (ws' := [(z, .inr (3, [.ref so, .ref tg, .ref g, .ref o, .int (nI rf), .int (nI lt), .int (nI ro), .int (nI al), .int (nI ir), .int (nI ia), .int (-1)])), (tg, .inr (1, [.int (nI 8000), .ref a4, .int (nI ((k + 1) + 1))])), (a4, .inl (cI, (gc n0 (k + 1 + 1)), .inl f4))]) rfl ?_
      refine k_pop X dX3_writeReference_65 rfl ?_
      refine k_aload_n X dX3_writeReference_66 rfl 1 rfl ?_
      refine k_get (v := .ref tg) X 0 3 1 rfl rfl (by decide) fl_X3_15 in_X3 rfl rfl dX3_writeReference_67 ?_
      refine k_iload_n X dX3_writeReference_70 rfl 2 rfl ?_
      refine k_sipush (v := 255) X dX3_writeReference_71 (by decide) ?_
      refine k_iand X dX3_writeReference_74 ?_
      refine k_as (y := nI (bn % 256)) (n_and (by omega) 8 (by decide)) ?_
      refine k_callV (wc := [(tg, .inr (1, [.int (nI 8000), .ref a4, .int (nI ((k + 1) + 1))])), (a4, .inl (cI, (gc n0 (k + 1 + 1)), .inl f4))]) (wr := [(z, .inr (3, [.ref so, .ref tg, .ref g, .ref o, .int (nI rf), .int (nI lt), .int (nI ro), .int (nI al), .int (nI ir), .int (nI ia), .int (-1)]))]) (As := [.int (nI (bn % 256))]) (n := 1) (st := []) (q0 := 0) X (c_add l D cI cB tg a4 8000 ((k + 1) + 1) (gc n0 (k + 1 + 1)) f4 (nI (bn % 256)) (hg2.1) (hg2.2.1) (by omega) (hg2.2.2) (by omega) (rByte_nI (by omega))) rfl rfl ml_X3_112 im_X1_add se_X1_add ini_X1 co_X1_add (by decide +kernel) rfl ⟨Nat.le_of_ble_eq_true rfl, Nat.le_of_ble_eq_true rfl⟩ (⟨by (try dsimp only); omega, by (try dsimp only); omega⟩) (Nat.le_of_ble_eq_true rfl) [1, 2] [0] rfl rfl rfl (by decide) (by decide) (by decide) rfl dX3_writeReference_75 (fun v_75 u_75 hu_75 => ?_)
      obtain ⟨a5, f5, rfl, rfl, hf7, hf8⟩ := hu_75
      refine k_to (ws' := [(z, .inr (3, [.ref so, .ref tg, .ref g, .ref o, .int (nI rf), .int (nI lt), .int (nI ro), .int (nI al), .int (nI ir), .int (nI ia), .int (-1)])), (tg, .inr (1, [.int (nI 8000), .ref a5, .int (nI (((k + 1) + 1) + 1))])), (a5, .inl (cI, rCap 8000 (gc n0 (k + 1 + 1)) (((k + 1) + 1) + 1), .inl f5))]) (st' := [.int 1]) rfl rfl ?_
      refine k_ws (ws' := [(z, .inr (3, [.ref so, .ref tg, .ref g, .ref o, .int (nI rf), .int (nI lt), .int (nI ro), .int (nI al), .int (nI ir), .int (nI ia), .int (-1)])), (tg, .inr (1, [.int (nI 8000), .ref a5, .int (nI (((k + 1) + 1) + 1))])), (a5, .inl (cI, (gc n0 (k + 1 + 1 + 1)), .inl f5))]) rfl ?_
      refine k_pop X dX3_writeReference_78 rfl ?_
      refine k_aload_n X dX3_writeReference_79 rfl 1 rfl ?_
      refine k_callV (wc := [(z, .inr (3, [.ref so, .ref tg, .ref g, .ref o, .int (nI rf), .int (nI lt), .int (nI ro), .int (nI al), .int (nI ir), .int (nI ia), .int (-1)])), (tg, .inr (1, [.int (nI 8000), .ref a5, .int (nI (k + 1 + 1 + 1))])), (a5, .inl (cI, (gc n0 (k + 1 + 1 + 1)), .inl f5))]) (wr := []) (As := []) (n := 0) (st := []) (q0 := 0) X (c_openRow l D cI cB z so tg g o rf lt ro al ir ia (-1) a5 n0 (k + 1 + 1 + 1) f5 (h1) (h0) (by omega)) rfl rfl ml_X3_115 im_X3_openRow se_X3_openRow ini_X3 co_X3_openRow (by decide +kernel) rfl ⟨Nat.le_of_ble_eq_true rfl, Nat.le_of_ble_eq_true rfl⟩ (⟨by (try dsimp only); omega, by (try dsimp only); omega⟩) (Nat.le_of_ble_eq_true rfl) [0, 1, 2] [] rfl rfl rfl (by decide) (by decide) (by decide) rfl dX3_writeReference_80 (fun v_80 u_80 hu_80 => ?_)
      obtain ⟨a6, f6, rfl, rfl, hf9, hf10⟩ := hu_80
      refine k_to (ws' := [(z, .inr (3, [.ref so, .ref tg, .ref g, .ref o, .int (nI rf), .int (nI lt), .int (nI (ro + 1)), .int (nI al), .int (nI 1), .int (nI (k + 1 + 1 + 1)), .int (-1)])), (tg, .inr (1, [.int (nI 8000), .ref a6, .int (nI ((k + 1 + 1 + 1) + 1))])), (a6, .inl (cI, (gc n0 ((k + 1 + 1 + 1) + 1)), .inl f6))]) (st' := []) rfl rfl ?_
      refine k_aload_n X dX3_writeReference_83 rfl 1 rfl ?_
      refine k_dup X dX3_writeReference_84 rfl ?_
      refine k_get (v := .int (nI rf)) X 0 3 4 rfl rfl (by decide) fl_X3_29 in_X3 rfl rfl dX3_writeReference_85 ?_
      refine k_iconst (v := 1) X dX3_writeReference_88 (by decide) ?_
      refine k_iadd X dX3_writeReference_89 ?_
      refine k_as (y := nI (rf + 1)) (nI_1 _) ?_
      refine k_put (v := .int (nI (rf + 1))) (ty := .int) (ws' := [(z, .inr (3, [.ref so, .ref tg, .ref g, .ref o, .int (nI (rf + 1)), .int (nI lt), .int (nI (ro + 1)), .int (nI al), .int (nI 1), .int (nI (k + 1 + 1 + 1)), .int (-1)])), (tg, .inr (1, [.int (nI 8000), .ref a6, .int (nI ((k + 1 + 1 + 1) + 1))])), (a6, .inl (cI, (gc n0 ((k + 1 + 1 + 1) + 1)), .inl f6))]) X 0 3 4 tyX3 tyX3_ok nmX3 rfl rfl (by decide) fl_X3_29 in_X3 rfl rfl (by decide +kernel) rfl rfl (Nat.le_of_ble_eq_true rfl) rfl dX3_writeReference_90 ?_
      refine k_aload_n X dX3_writeReference_93 rfl 1 rfl ?_
      refine k_iload_n X dX3_writeReference_94 rfl 2 rfl ?_
      refine k_put (v := .int (nI bn)) (ty := .int) (ws' := [(z, .inr (3, [.ref so, .ref tg, .ref g, .ref o, .int (nI (rf + 1)), .int (nI lt), .int (nI (ro + 1)), .int (nI al), .int (nI 1), .int (nI (k + 1 + 1 + 1)), .int (nI bn)])), (tg, .inr (1, [.int (nI 8000), .ref a6, .int (nI ((k + 1 + 1 + 1) + 1))])), (a6, .inl (cI, (gc n0 ((k + 1 + 1 + 1) + 1)), .inl f6))]) X 0 3 10 tyX3 tyX3_ok nmX3 rfl rfl (by decide) fl_X3_88 in_X3 rfl rfl (by decide +kernel) rfl rfl (Nat.le_of_ble_eq_true rfl) rfl dX3_writeReference_95 ?_
      exact k_vret (u := [(z, .inr (3, [.ref so, .ref tg, .ref g, .ref o, .int (nI (rf + 1)), .int (nI lt), .int (nI (ro + 1)), .int (nI al), .int (nI 1), .int (nI (k + 1 + 1 + 1)), .int (nI bn)])), (tg, .inr (1, [.int (nI 8000), .ref a6, .int (nI ((k + 1 + 1 + 1) + 1))])), (a6, .inl (cI, (gc n0 ((k + 1 + 1 + 1) + 1)), .inl f6))]) X hr [0, 1, 2] (by decide) rfl rfl (⟨a6, f6, rfl, rfl, agr_push (agr_push (agr_push (agr_push (fun _ _ => rfl) hf3 hf4) hf5 hf6) hf7 hf8) hf9 hf10⟩) (by (try dsimp only); omega) (by (try dsimp only); omega) dX3_writeReference_98
    · exact absurd c_35 (by decide)
  · exact absurd c_5 (by decide)
set_option maxHeartbeats 4000000 in
set_option maxRecDepth 100000 in
theorem c_wRef_o2 (l : Launch) (D : va_G) (cI cB : ClassId) (z : Nat) (so : Nat) (tg : Nat) (g : Nat) (o : Nat) (rf : Nat) (lt : Nat) (ro : Nat) (al : Nat) (ir : Nat) (ia : Nat) (lb : Nat) (at_ : Nat) (n0 : Nat) (k : Nat) (f : Nat → Int32) (bn : Nat) (h1 : 1 ≤ n0) (h0 : n0 ≤ 8000) (hk : k + 4 ≤ 8000) (hbn : bn ≤ 2000) (hir : ir ≤ 255) (hlb : lb ≤ 2000) (hng : ¬ (bn = lb + 1 ∧ ir < 255)) : kC l yX3_writeReference cX3_writeReference 3 none 5 124 (rCost 8000 (gc n0 k) (k + 1) + rCost 8000 (gc n0 (k + 1)) (k + 1 + 1) + rCost 8000 (gc n0 (k + 1 + 1)) (k + 1 + 1 + 1) + rCost 8000 (gc n0 (k + 1 + 1 + 1)) (k + 1 + 1 + 1 + 1)) (rCost 8000 (gc n0 k) (k + 1) + rCost 8000 (gc n0 (k + 1)) (k + 1 + 1) + rCost 8000 (gc n0 (k + 1 + 1)) (k + 1 + 1 + 1) + rCost 8000 (gc n0 (k + 1 + 1 + 1)) (k + 1 + 1 + 1 + 1)) D cI cB [.ref z, .int (nI bn)] [(z, .inr (3, [.ref so, .ref tg, .ref g, .ref o, .int (nI rf), .int (nI lt), .int (nI ro), .int (nI al), .int (nI ir), .int (nI ia), .int (nI lb)])), (tg, .inr (1, [.int (nI 8000), .ref at_, .int (nI k)])), (at_, .inl (cI, (gc n0 k), .inl f))] (fun (vV : Option Value) (uU : va_W) => ∃ (a2 : Nat) (f2 : Nat → Int32), vV = none ∧ uU = [(z, .inr (3, [.ref so, .ref tg, .ref g, .ref o, .int (nI (rf + 1)), .int (nI lt), .int (nI (ro + 1)), .int (nI al), .int (nI 1), .int (nI (k + 3)), .int (nI bn)])), (tg, .inr (1, [.int (nI 8000), .ref a2, .int (nI (k + 4))])), (a2, .inl (cI, (gc n0 (k + 4)), .inl f2))] ∧ (∀ j, j < k + 4 → f2 j = refOpen k f bn j)) := by
  refine k_entry (lv0 := [(0, .ref z), (1, .int (nI bn))]) (by decide) (Nat.le_of_ble_eq_true rfl) rfl ?_
  intro zp ze zs zm zb zt zc zA X hr hin
  have hg := gc_ok h1 h0 k (by omega); have hg1 := gc_ok h1 h0 (k + 1) (by omega); have hg2 := gc_ok h1 h0 (k + 2) (by omega); have hg3 := gc_ok h1 h0 (k + 3) (by omega)
  refine k_aload_n X dX3_writeReference_0 rfl 0 rfl ?_
  refine k_get (v := .int (nI lb)) X 0 3 10 rfl rfl (by decide) fl_X3_88 in_X3 rfl rfl dX3_writeReference_1 ?_
  refine k_iconst (v := -1) X dX3_writeReference_4 (by decide) ?_
  refine k_icmp_eq (tgt := 32) (xi := ((lb : Nat) : Int)) (yi := (-1 : Int)) X (nI_toInt (by omega)) (by decide) dX3_writeReference_5 (by decide) (fun c_5 => ?_) (fun c_5 => ?_)
  · exact absurd c_5 (by omega)
  · refine k_iload_n X dX3_writeReference_8 rfl 1 rfl ?_
    refine k_aload_n X dX3_writeReference_9 rfl 0 rfl ?_
    refine k_get (v := .int (nI lb)) X 0 3 10 rfl rfl (by decide) fl_X3_88 in_X3 rfl rfl dX3_writeReference_10 ?_
    refine k_iconst (v := 1) X dX3_writeReference_13 (by decide) ?_
    refine k_iadd X dX3_writeReference_14 ?_
    refine k_as (y := nI (lb + 1)) (nI_1 _) ?_
    refine k_icmp_ne (tgt := 32) (xi := ((bn : Nat) : Int)) (yi := (((lb + 1) : Nat) : Int)) X (nI_toInt (by omega)) (nI_toInt (by omega)) dX3_writeReference_15 (by decide) (fun c_15 => ?_) (fun c_15 => ?_)
    · refine k_iconst (v := 0) X dX3_writeReference_32 (by decide) ?_
      refine k_istore_n (lv' := [(2, .int 0), (0, .ref z), (1, .int (nI bn))]) X dX3_writeReference_33 rfl (by decide) rfl ?_
      refine k_iload_n X dX3_writeReference_34 rfl 0 rfl ?_
      refine k_if_eq (tgt := 45) (xi := (0 : Int)) X (by decide) dX3_writeReference_35 (by decide) (fun c_35 => ?_) (fun c_35 => ?_)
      · refine k_aload_n X dX3_writeReference_45 rfl 1 rfl ?_
        refine k_get (v := .ref tg) X 0 3 1 rfl rfl (by decide) fl_X3_15 in_X3 rfl rfl dX3_writeReference_46 ?_
        refine k_iconst (v := 1) X dX3_writeReference_49 (by decide) ?_
        refine k_callV (wc := [(tg, .inr (1, [.int (nI 8000), .ref at_, .int (nI k)])), (at_, .inl (cI, (gc n0 k), .inl f))]) (wr := [(z, .inr (3, [.ref so, .ref tg, .ref g, .ref o, .int (nI rf), .int (nI lt), .int (nI ro), .int (nI al), .int (nI ir), .int (nI ia), .int (nI lb)]))]) (As := [.int 1]) (n := 1) (st := []) (q0 := 0) X (c_add l D cI cB tg at_ 8000 k (gc n0 k) f 1 (hg.1) (hg.2.1) (by omega) (hg.2.2) (by omega) (byte1)) rfl rfl ml_X3_112 im_X1_add se_X1_add ini_X1 co_X1_add (by decide +kernel) rfl ⟨Nat.le_of_ble_eq_true rfl, Nat.le_of_ble_eq_true rfl⟩ (⟨by (try dsimp only); omega, by (try dsimp only); omega⟩) (Nat.le_of_ble_eq_true rfl) [1, 2] [0] rfl rfl rfl (by decide) (by decide) (by decide) rfl dX3_writeReference_50 (fun v_50 u_50 hu_50 => ?_)
        obtain ⟨a3, f3, rfl, rfl, hf3, hf4⟩ := hu_50
        refine k_to (ws' := [(z, .inr (3, [.ref so, .ref tg, .ref g, .ref o, .int (nI rf), .int (nI lt), .int (nI ro), .int (nI al), .int (nI ir), .int (nI ia), .int (nI lb)])), (tg, .inr (1, [.int (nI 8000), .ref a3, .int (nI (k + 1))])), (a3, .inl (cI, rCap 8000 (gc n0 k) (k + 1), .inl f3))]) (st' := [.int 1]) rfl rfl ?_
        refine k_ws (ws' := [(z, .inr (3, [.ref so, .ref tg, .ref g, .ref o, .int (nI rf), .int (nI lt), .int (nI ro), .int (nI al), .int (nI ir), .int (nI ia), .int (nI lb)])), (tg, .inr (1, [.int (nI 8000), .ref a3, .int (nI (k + 1))])), (a3, .inl (cI, (gc n0 (k + 1)), .inl f3))]) rfl ?_
        refine k_pop X dX3_writeReference_53 rfl ?_
        refine k_aload_n X dX3_writeReference_54 rfl 1 rfl ?_
        refine k_get (v := .ref tg) X 0 3 1 rfl rfl (by decide) fl_X3_15 in_X3 rfl rfl dX3_writeReference_55 ?_
        refine k_iload_n X dX3_writeReference_58 rfl 2 rfl ?_
        refine k_bipush (v := 8) X dX3_writeReference_59 (by decide) ?_
        refine k_ishr X dX3_writeReference_61 ?_
        refine k_as (y := nI (bn / 256)) (n_shr (by omega) 8 (by decide)) ?_
        refine k_callV (wc := [(tg, .inr (1, [.int (nI 8000), .ref a3, .int (nI (k + 1))])), (a3, .inl (cI, (gc n0 (k + 1)), .inl f3))]) (wr := [(z, .inr (3, [.ref so, .ref tg, .ref g, .ref o, .int (nI rf), .int (nI lt), .int (nI ro), .int (nI al), .int (nI ir), .int (nI ia), .int (nI lb)]))]) (As := [.int (nI (bn / 256))]) (n := 1) (st := []) (q0 := 0) X (c_add l D cI cB tg a3 8000 (k + 1) (gc n0 (k + 1)) f3 (nI (bn / 256)) (hg1.1) (hg1.2.1) (by omega) (hg1.2.2) (by omega) (rByte_nI (by omega))) rfl rfl ml_X3_112 im_X1_add se_X1_add ini_X1 co_X1_add (by decide +kernel) rfl ⟨Nat.le_of_ble_eq_true rfl, Nat.le_of_ble_eq_true rfl⟩ (⟨by (try dsimp only); omega, by (try dsimp only); omega⟩) (Nat.le_of_ble_eq_true rfl) [1, 2] [0] rfl rfl rfl (by decide) (by decide) (by decide) rfl dX3_writeReference_62 (fun v_62 u_62 hu_62 => ?_)
        obtain ⟨a4, f4, rfl, rfl, hf5, hf6⟩ := hu_62
        refine k_to (ws' := [(z, .inr (3, [.ref so, .ref tg, .ref g, .ref o, .int (nI rf), .int (nI lt), .int (nI ro), .int (nI al), .int (nI ir), .int (nI ia), .int (nI lb)])), (tg, .inr (1, [.int (nI 8000), .ref a4, .int (nI ((k + 1) + 1))])), (a4, .inl (cI, rCap 8000 (gc n0 (k + 1)) ((k + 1) + 1), .inl f4))]) (st' := [.int 1]) rfl rfl ?_
        refine k_ws (ws' := [(z, .inr (3, [.ref so, .ref tg, .ref g, .ref o, .int (nI rf), .int (nI lt), .int (nI ro), .int (nI al), .int (nI ir), .int (nI ia), .int (nI lb)])), (tg, .inr (1, [.int (nI 8000), .ref a4, .int (nI ((k + 1) + 1))])), (a4, .inl (cI, (gc n0 (k + 1 + 1)), .inl f4))]) rfl ?_
        refine k_pop X dX3_writeReference_65 rfl ?_
        refine k_aload_n X dX3_writeReference_66 rfl 1 rfl ?_
        refine k_get (v := .ref tg) X 0 3 1 rfl rfl (by decide) fl_X3_15 in_X3 rfl rfl dX3_writeReference_67 ?_
        refine k_iload_n X dX3_writeReference_70 rfl 2 rfl ?_
        refine k_sipush (v := 255) X dX3_writeReference_71 (by decide) ?_
        refine k_iand X dX3_writeReference_74 ?_
        refine k_as (y := nI (bn % 256)) (n_and (by omega) 8 (by decide)) ?_
        refine k_callV (wc := [(tg, .inr (1, [.int (nI 8000), .ref a4, .int (nI ((k + 1) + 1))])), (a4, .inl (cI, (gc n0 (k + 1 + 1)), .inl f4))]) (wr := [(z, .inr (3, [.ref so, .ref tg, .ref g, .ref o, .int (nI rf), .int (nI lt), .int (nI ro), .int (nI al), .int (nI ir), .int (nI ia), .int (nI lb)]))]) (As := [.int (nI (bn % 256))]) (n := 1) (st := []) (q0 := 0) X (c_add l D cI cB tg a4 8000 ((k + 1) + 1) (gc n0 (k + 1 + 1)) f4 (nI (bn % 256)) (hg2.1) (hg2.2.1) (by omega) (hg2.2.2) (by omega) (rByte_nI (by omega))) rfl rfl ml_X3_112 im_X1_add se_X1_add ini_X1 co_X1_add (by decide +kernel) rfl ⟨Nat.le_of_ble_eq_true rfl, Nat.le_of_ble_eq_true rfl⟩ (⟨by (try dsimp only); omega, by (try dsimp only); omega⟩) (Nat.le_of_ble_eq_true rfl) [1, 2] [0] rfl rfl rfl (by decide) (by decide) (by decide) rfl dX3_writeReference_75 (fun v_75 u_75 hu_75 => ?_)
        obtain ⟨a5, f5, rfl, rfl, hf7, hf8⟩ := hu_75
        refine k_to (ws' := [(z, .inr (3, [.ref so, .ref tg, .ref g, .ref o, .int (nI rf), .int (nI lt), .int (nI ro), .int (nI al), .int (nI ir), .int (nI ia), .int (nI lb)])), (tg, .inr (1, [.int (nI 8000), .ref a5, .int (nI (((k + 1) + 1) + 1))])), (a5, .inl (cI, rCap 8000 (gc n0 (k + 1 + 1)) (((k + 1) + 1) + 1), .inl f5))]) (st' := [.int 1]) rfl rfl ?_
        refine k_ws (ws' := [(z, .inr (3, [.ref so, .ref tg, .ref g, .ref o, .int (nI rf), .int (nI lt), .int (nI ro), .int (nI al), .int (nI ir), .int (nI ia), .int (nI lb)])), (tg, .inr (1, [.int (nI 8000), .ref a5, .int (nI (((k + 1) + 1) + 1))])), (a5, .inl (cI, (gc n0 (k + 1 + 1 + 1)), .inl f5))]) rfl ?_
        refine k_pop X dX3_writeReference_78 rfl ?_
        refine k_aload_n X dX3_writeReference_79 rfl 1 rfl ?_
        refine k_callV (wc := [(z, .inr (3, [.ref so, .ref tg, .ref g, .ref o, .int (nI rf), .int (nI lt), .int (nI ro), .int (nI al), .int (nI ir), .int (nI ia), .int (nI lb)])), (tg, .inr (1, [.int (nI 8000), .ref a5, .int (nI (k + 1 + 1 + 1))])), (a5, .inl (cI, (gc n0 (k + 1 + 1 + 1)), .inl f5))]) (wr := []) (As := []) (n := 0) (st := []) (q0 := 0) X (c_openRow l D cI cB z so tg g o rf lt ro al ir ia (nI lb) a5 n0 (k + 1 + 1 + 1) f5 (h1) (h0) (by omega)) rfl rfl ml_X3_115 im_X3_openRow se_X3_openRow ini_X3 co_X3_openRow (by decide +kernel) rfl ⟨Nat.le_of_ble_eq_true rfl, Nat.le_of_ble_eq_true rfl⟩ (⟨by (try dsimp only); omega, by (try dsimp only); omega⟩) (Nat.le_of_ble_eq_true rfl) [0, 1, 2] [] rfl rfl rfl (by decide) (by decide) (by decide) rfl dX3_writeReference_80 (fun v_80 u_80 hu_80 => ?_)
        obtain ⟨a6, f6, rfl, rfl, hf9, hf10⟩ := hu_80
        refine k_to (ws' := [(z, .inr (3, [.ref so, .ref tg, .ref g, .ref o, .int (nI rf), .int (nI lt), .int (nI (ro + 1)), .int (nI al), .int (nI 1), .int (nI (k + 1 + 1 + 1)), .int (nI lb)])), (tg, .inr (1, [.int (nI 8000), .ref a6, .int (nI ((k + 1 + 1 + 1) + 1))])), (a6, .inl (cI, (gc n0 ((k + 1 + 1 + 1) + 1)), .inl f6))]) (st' := []) rfl rfl ?_
        refine k_aload_n X dX3_writeReference_83 rfl 1 rfl ?_
        refine k_dup X dX3_writeReference_84 rfl ?_
        refine k_get (v := .int (nI rf)) X 0 3 4 rfl rfl (by decide) fl_X3_29 in_X3 rfl rfl dX3_writeReference_85 ?_
        refine k_iconst (v := 1) X dX3_writeReference_88 (by decide) ?_
        refine k_iadd X dX3_writeReference_89 ?_
        refine k_as (y := nI (rf + 1)) (nI_1 _) ?_
        refine k_put (v := .int (nI (rf + 1))) (ty := .int) (ws' := [(z, .inr (3, [.ref so, .ref tg, .ref g, .ref o, .int (nI (rf + 1)), .int (nI lt), .int (nI (ro + 1)), .int (nI al), .int (nI 1), .int (nI (k + 1 + 1 + 1)), .int (nI lb)])), (tg, .inr (1, [.int (nI 8000), .ref a6, .int (nI ((k + 1 + 1 + 1) + 1))])), (a6, .inl (cI, (gc n0 ((k + 1 + 1 + 1) + 1)), .inl f6))]) X 0 3 4 tyX3 tyX3_ok nmX3 rfl rfl (by decide) fl_X3_29 in_X3 rfl rfl (by decide +kernel) rfl rfl (Nat.le_of_ble_eq_true rfl) rfl dX3_writeReference_90 ?_
        refine k_aload_n X dX3_writeReference_93 rfl 1 rfl ?_
        refine k_iload_n X dX3_writeReference_94 rfl 2 rfl ?_
        refine k_put (v := .int (nI bn)) (ty := .int) (ws' := [(z, .inr (3, [.ref so, .ref tg, .ref g, .ref o, .int (nI (rf + 1)), .int (nI lt), .int (nI (ro + 1)), .int (nI al), .int (nI 1), .int (nI (k + 1 + 1 + 1)), .int (nI bn)])), (tg, .inr (1, [.int (nI 8000), .ref a6, .int (nI ((k + 1 + 1 + 1) + 1))])), (a6, .inl (cI, (gc n0 ((k + 1 + 1 + 1) + 1)), .inl f6))]) X 0 3 10 tyX3 tyX3_ok nmX3 rfl rfl (by decide) fl_X3_88 in_X3 rfl rfl (by decide +kernel) rfl rfl (Nat.le_of_ble_eq_true rfl) rfl dX3_writeReference_95 ?_
        exact k_vret (u := [(z, .inr (3, [.ref so, .ref tg, .ref g, .ref o, .int (nI (rf + 1)), .int (nI lt), .int (nI (ro + 1)), .int (nI al), .int (nI 1), .int (nI (k + 1 + 1 + 1)), .int (nI bn)])), (tg, .inr (1, [.int (nI 8000), .ref a6, .int (nI ((k + 1 + 1 + 1) + 1))])), (a6, .inl (cI, (gc n0 ((k + 1 + 1 + 1) + 1)), .inl f6))]) X hr [0, 1, 2] (by decide) rfl rfl (⟨a6, f6, rfl, rfl, agr_push (agr_push (agr_push (agr_push (fun _ _ => rfl) hf3 hf4) hf5 hf6) hf7 hf8) hf9 hf10⟩) (by (try dsimp only); omega) (by (try dsimp only); omega) dX3_writeReference_98
      · exact absurd c_35 (by decide)
    · refine k_aload_n X dX3_writeReference_18 rfl 0 rfl ?_
      refine k_get (v := .int (nI ir)) X 0 3 8 rfl rfl (by decide) fl_X3_82 in_X3 rfl rfl dX3_writeReference_19 ?_
      refine k_sipush (v := 255) X dX3_writeReference_22 (by decide) ?_
      refine k_icmp_ge (tgt := 32) (xi := ((ir : Nat) : Int)) (yi := (255 : Int)) X (nI_toInt (by omega)) (by decide) dX3_writeReference_25 (by decide) (fun c_25 => ?_) (fun c_25 => ?_)
      · refine k_iconst (v := 0) X dX3_writeReference_32 (by decide) ?_
        refine k_istore_n (lv' := [(2, .int 0), (0, .ref z), (1, .int (nI bn))]) X dX3_writeReference_33 rfl (by decide) rfl ?_
        refine k_iload_n X dX3_writeReference_34 rfl 0 rfl ?_
        refine k_if_eq (tgt := 45) (xi := (0 : Int)) X (by decide) dX3_writeReference_35 (by decide) (fun c_35 => ?_) (fun c_35 => ?_)
        · refine k_aload_n X dX3_writeReference_45 rfl 1 rfl ?_
          refine k_get (v := .ref tg) X 0 3 1 rfl rfl (by decide) fl_X3_15 in_X3 rfl rfl dX3_writeReference_46 ?_
          refine k_iconst (v := 1) X dX3_writeReference_49 (by decide) ?_
          refine k_callV (wc := [(tg, .inr (1, [.int (nI 8000), .ref at_, .int (nI k)])), (at_, .inl (cI, (gc n0 k), .inl f))]) (wr := [(z, .inr (3, [.ref so, .ref tg, .ref g, .ref o, .int (nI rf), .int (nI lt), .int (nI ro), .int (nI al), .int (nI ir), .int (nI ia), .int (nI lb)]))]) (As := [.int 1]) (n := 1) (st := []) (q0 := 0) X (c_add l D cI cB tg at_ 8000 k (gc n0 k) f 1 (hg.1) (hg.2.1) (by omega) (hg.2.2) (by omega) (byte1)) rfl rfl ml_X3_112 im_X1_add se_X1_add ini_X1 co_X1_add (by decide +kernel) rfl ⟨Nat.le_of_ble_eq_true rfl, Nat.le_of_ble_eq_true rfl⟩ (⟨by (try dsimp only); omega, by (try dsimp only); omega⟩) (Nat.le_of_ble_eq_true rfl) [1, 2] [0] rfl rfl rfl (by decide) (by decide) (by decide) rfl dX3_writeReference_50 (fun v_50 u_50 hu_50 => ?_)
          obtain ⟨a3, f3, rfl, rfl, hf3, hf4⟩ := hu_50
          refine k_to (ws' := [(z, .inr (3, [.ref so, .ref tg, .ref g, .ref o, .int (nI rf), .int (nI lt), .int (nI ro), .int (nI al), .int (nI ir), .int (nI ia), .int (nI lb)])), (tg, .inr (1, [.int (nI 8000), .ref a3, .int (nI (k + 1))])), (a3, .inl (cI, rCap 8000 (gc n0 k) (k + 1), .inl f3))]) (st' := [.int 1]) rfl rfl ?_
          refine k_ws (ws' := [(z, .inr (3, [.ref so, .ref tg, .ref g, .ref o, .int (nI rf), .int (nI lt), .int (nI ro), .int (nI al), .int (nI ir), .int (nI ia), .int (nI lb)])), (tg, .inr (1, [.int (nI 8000), .ref a3, .int (nI (k + 1))])), (a3, .inl (cI, (gc n0 (k + 1)), .inl f3))]) rfl ?_
          refine k_pop X dX3_writeReference_53 rfl ?_
          refine k_aload_n X dX3_writeReference_54 rfl 1 rfl ?_
          refine k_get (v := .ref tg) X 0 3 1 rfl rfl (by decide) fl_X3_15 in_X3 rfl rfl dX3_writeReference_55 ?_
          refine k_iload_n X dX3_writeReference_58 rfl 2 rfl ?_
          refine k_bipush (v := 8) X dX3_writeReference_59 (by decide) ?_
          refine k_ishr X dX3_writeReference_61 ?_
          refine k_as (y := nI (bn / 256)) (n_shr (by omega) 8 (by decide)) ?_
          refine k_callV (wc := [(tg, .inr (1, [.int (nI 8000), .ref a3, .int (nI (k + 1))])), (a3, .inl (cI, (gc n0 (k + 1)), .inl f3))]) (wr := [(z, .inr (3, [.ref so, .ref tg, .ref g, .ref o, .int (nI rf), .int (nI lt), .int (nI ro), .int (nI al), .int (nI ir), .int (nI ia), .int (nI lb)]))]) (As := [.int (nI (bn / 256))]) (n := 1) (st := []) (q0 := 0) X (c_add l D cI cB tg a3 8000 (k + 1) (gc n0 (k + 1)) f3 (nI (bn / 256)) (hg1.1) (hg1.2.1) (by omega) (hg1.2.2) (by omega) (rByte_nI (by omega))) rfl rfl ml_X3_112 im_X1_add se_X1_add ini_X1 co_X1_add (by decide +kernel) rfl ⟨Nat.le_of_ble_eq_true rfl, Nat.le_of_ble_eq_true rfl⟩ (⟨by (try dsimp only); omega, by (try dsimp only); omega⟩) (Nat.le_of_ble_eq_true rfl) [1, 2] [0] rfl rfl rfl (by decide) (by decide) (by decide) rfl dX3_writeReference_62 (fun v_62 u_62 hu_62 => ?_)
          obtain ⟨a4, f4, rfl, rfl, hf5, hf6⟩ := hu_62
          refine k_to (ws' := [(z, .inr (3, [.ref so, .ref tg, .ref g, .ref o, .int (nI rf), .int (nI lt), .int (nI ro), .int (nI al), .int (nI ir), .int (nI ia), .int (nI lb)])), (tg, .inr (1, [.int (nI 8000), .ref a4, .int (nI ((k + 1) + 1))])), (a4, .inl (cI, rCap 8000 (gc n0 (k + 1)) ((k + 1) + 1), .inl f4))]) (st' := [.int 1]) rfl rfl ?_
          refine k_ws (ws' := [(z, .inr (3, [.ref so, .ref tg, .ref g, .ref o, .int (nI rf), .int (nI lt), .int (nI ro), .int (nI al), .int (nI ir), .int (nI ia), .int (nI lb)])), (tg, .inr (1, [.int (nI 8000), .ref a4, .int (nI ((k + 1) + 1))])), (a4, .inl (cI, (gc n0 (k + 1 + 1)), .inl f4))]) rfl ?_
          refine k_pop X dX3_writeReference_65 rfl ?_
          refine k_aload_n X dX3_writeReference_66 rfl 1 rfl ?_
          refine k_get (v := .ref tg) X 0 3 1 rfl rfl (by decide) fl_X3_15 in_X3 rfl rfl dX3_writeReference_67 ?_
          refine k_iload_n X dX3_writeReference_70 rfl 2 rfl ?_
          refine k_sipush (v := 255) X dX3_writeReference_71 (by decide) ?_
          refine k_iand X dX3_writeReference_74 ?_
          refine k_as (y := nI (bn % 256)) (n_and (by omega) 8 (by decide)) ?_
          refine k_callV (wc := [(tg, .inr (1, [.int (nI 8000), .ref a4, .int (nI ((k + 1) + 1))])), (a4, .inl (cI, (gc n0 (k + 1 + 1)), .inl f4))]) (wr := [(z, .inr (3, [.ref so, .ref tg, .ref g, .ref o, .int (nI rf), .int (nI lt), .int (nI ro), .int (nI al), .int (nI ir), .int (nI ia), .int (nI lb)]))]) (As := [.int (nI (bn % 256))]) (n := 1) (st := []) (q0 := 0) X (c_add l D cI cB tg a4 8000 ((k + 1) + 1) (gc n0 (k + 1 + 1)) f4 (nI (bn % 256)) (hg2.1) (hg2.2.1) (by omega) (hg2.2.2) (by omega) (rByte_nI (by omega))) rfl rfl ml_X3_112 im_X1_add se_X1_add ini_X1 co_X1_add (by decide +kernel) rfl ⟨Nat.le_of_ble_eq_true rfl, Nat.le_of_ble_eq_true rfl⟩ (⟨by (try dsimp only); omega, by (try dsimp only); omega⟩) (Nat.le_of_ble_eq_true rfl) [1, 2] [0] rfl rfl rfl (by decide) (by decide) (by decide) rfl dX3_writeReference_75 (fun v_75 u_75 hu_75 => ?_)
          obtain ⟨a5, f5, rfl, rfl, hf7, hf8⟩ := hu_75
          refine k_to (ws' := [(z, .inr (3, [.ref so, .ref tg, .ref g, .ref o, .int (nI rf), .int (nI lt), .int (nI ro), .int (nI al), .int (nI ir), .int (nI ia), .int (nI lb)])), (tg, .inr (1, [.int (nI 8000), .ref a5, .int (nI (((k + 1) + 1) + 1))])), (a5, .inl (cI, rCap 8000 (gc n0 (k + 1 + 1)) (((k + 1) + 1) + 1), .inl f5))]) (st' := [.int 1]) rfl rfl ?_
          refine k_ws (ws' := [(z, .inr (3, [.ref so, .ref tg, .ref g, .ref o, .int (nI rf), .int (nI lt), .int (nI ro), .int (nI al), .int (nI ir), .int (nI ia), .int (nI lb)])), (tg, .inr (1, [.int (nI 8000), .ref a5, .int (nI (((k + 1) + 1) + 1))])), (a5, .inl (cI, (gc n0 (k + 1 + 1 + 1)), .inl f5))]) rfl ?_
          refine k_pop X dX3_writeReference_78 rfl ?_
          refine k_aload_n X dX3_writeReference_79 rfl 1 rfl ?_
          refine k_callV (wc := [(z, .inr (3, [.ref so, .ref tg, .ref g, .ref o, .int (nI rf), .int (nI lt), .int (nI ro), .int (nI al), .int (nI ir), .int (nI ia), .int (nI lb)])), (tg, .inr (1, [.int (nI 8000), .ref a5, .int (nI (k + 1 + 1 + 1))])), (a5, .inl (cI, (gc n0 (k + 1 + 1 + 1)), .inl f5))]) (wr := []) (As := []) (n := 0) (st := []) (q0 := 0) X (c_openRow l D cI cB z so tg g o rf lt ro al ir ia (nI lb) a5 n0 (k + 1 + 1 + 1) f5 (h1) (h0) (by omega)) rfl rfl ml_X3_115 im_X3_openRow se_X3_openRow ini_X3 co_X3_openRow (by decide +kernel) rfl ⟨Nat.le_of_ble_eq_true rfl, Nat.le_of_ble_eq_true rfl⟩ (⟨by (try dsimp only); omega, by (try dsimp only); omega⟩) (Nat.le_of_ble_eq_true rfl) [0, 1, 2] [] rfl rfl rfl (by decide) (by decide) (by decide) rfl dX3_writeReference_80 (fun v_80 u_80 hu_80 => ?_)
          obtain ⟨a6, f6, rfl, rfl, hf9, hf10⟩ := hu_80
          refine k_to (ws' := [(z, .inr (3, [.ref so, .ref tg, .ref g, .ref o, .int (nI rf), .int (nI lt), .int (nI (ro + 1)), .int (nI al), .int (nI 1), .int (nI (k + 1 + 1 + 1)), .int (nI lb)])), (tg, .inr (1, [.int (nI 8000), .ref a6, .int (nI ((k + 1 + 1 + 1) + 1))])), (a6, .inl (cI, (gc n0 ((k + 1 + 1 + 1) + 1)), .inl f6))]) (st' := []) rfl rfl ?_
          refine k_aload_n X dX3_writeReference_83 rfl 1 rfl ?_
          refine k_dup X dX3_writeReference_84 rfl ?_
          refine k_get (v := .int (nI rf)) X 0 3 4 rfl rfl (by decide) fl_X3_29 in_X3 rfl rfl dX3_writeReference_85 ?_
          refine k_iconst (v := 1) X dX3_writeReference_88 (by decide) ?_
          refine k_iadd X dX3_writeReference_89 ?_
          refine k_as (y := nI (rf + 1)) (nI_1 _) ?_
          refine k_put (v := .int (nI (rf + 1))) (ty := .int) (ws' := [(z, .inr (3, [.ref so, .ref tg, .ref g, .ref o, .int (nI (rf + 1)), .int (nI lt), .int (nI (ro + 1)), .int (nI al), .int (nI 1), .int (nI (k + 1 + 1 + 1)), .int (nI lb)])), (tg, .inr (1, [.int (nI 8000), .ref a6, .int (nI ((k + 1 + 1 + 1) + 1))])), (a6, .inl (cI, (gc n0 ((k + 1 + 1 + 1) + 1)), .inl f6))]) X 0 3 4 tyX3 tyX3_ok nmX3 rfl rfl (by decide) fl_X3_29 in_X3 rfl rfl (by decide +kernel) rfl rfl (Nat.le_of_ble_eq_true rfl) rfl dX3_writeReference_90 ?_
          refine k_aload_n X dX3_writeReference_93 rfl 1 rfl ?_
          refine k_iload_n X dX3_writeReference_94 rfl 2 rfl ?_
          refine k_put (v := .int (nI bn)) (ty := .int) (ws' := [(z, .inr (3, [.ref so, .ref tg, .ref g, .ref o, .int (nI (rf + 1)), .int (nI lt), .int (nI (ro + 1)), .int (nI al), .int (nI 1), .int (nI (k + 1 + 1 + 1)), .int (nI bn)])), (tg, .inr (1, [.int (nI 8000), .ref a6, .int (nI ((k + 1 + 1 + 1) + 1))])), (a6, .inl (cI, (gc n0 ((k + 1 + 1 + 1) + 1)), .inl f6))]) X 0 3 10 tyX3 tyX3_ok nmX3 rfl rfl (by decide) fl_X3_88 in_X3 rfl rfl (by decide +kernel) rfl rfl (Nat.le_of_ble_eq_true rfl) rfl dX3_writeReference_95 ?_
          exact k_vret (u := [(z, .inr (3, [.ref so, .ref tg, .ref g, .ref o, .int (nI (rf + 1)), .int (nI lt), .int (nI (ro + 1)), .int (nI al), .int (nI 1), .int (nI (k + 1 + 1 + 1)), .int (nI bn)])), (tg, .inr (1, [.int (nI 8000), .ref a6, .int (nI ((k + 1 + 1 + 1) + 1))])), (a6, .inl (cI, (gc n0 ((k + 1 + 1 + 1) + 1)), .inl f6))]) X hr [0, 1, 2] (by decide) rfl rfl (⟨a6, f6, rfl, rfl, agr_push (agr_push (agr_push (agr_push (fun _ _ => rfl) hf3 hf4) hf5 hf6) hf7 hf8) hf9 hf10⟩) (by (try dsimp only); omega) (by (try dsimp only); omega) dX3_writeReference_98
        · exact absurd c_35 (by decide)
      · exact absurd c_25 (by omega)
