/-! sums that roll along -/
theorem sA_roll (f : Nat → Int32) (p : Nat) : ∀ n, sA f (p + 1) n = sA f p n - f p + f (p + n) := by
  intro n
  induction n with
  | zero => show (0 : Int32) = 0 - f p + f (p + 0); rw [Nat.add_zero]; grind
  | succ n ih =>
    show sA f (p + 1) n + f (p + 1 + n) = sA f p n + f (p + n) - f p + f (p + (n + 1))
    rw [ih, show p + 1 + n = p + (n + 1) by omega]
    grind
theorem sB_roll (f : Nat → Int32) (p : Nat) : ∀ n, sB f (p + 1) n = sB f p n - nI n * f p + sA f (p + 1) n := by
  intro n
  induction n with
  | zero => show (0 : Int32) = 0 - nI 0 * f p + 0; rw [nI_0]; grind
  | succ n ih =>
    show sB f (p + 1) n + sA f (p + 1) (n + 1) = sB f p n + (sA f p n + f (p + n)) - nI (n + 1) * f p + sA f (p + 1) (n + 1)
    rw [ih, sA_roll f p n, nI_succ]
    grind
def mN (x : Int32) : Nat := x.toBitVec.toNat % 65536
theorem mN_add (x y : Int32) : mN (x + y) = (mN x + mN y) % 65536 := by
  unfold mN
  rw [Int32.toBitVec_add, BitVec.toNat_add]
  omega
theorem mN_sub (x y : Int32) : mN (x - y) = (mN x + 65536 - mN y) % 65536 := by
  have hy := y.toBitVec.isLt
  unfold mN
  rw [Int32.toBitVec_sub, BitVec.toNat_sub]
  omega
theorem sJ_nat (a b : Int32) : (sJ a b).toBitVec.toNat = mN b * 65536 + mN a := by
  have h1 : a &&& 65535 = nI (a.toBitVec.toNat % 2 ^ 16) := pk_and a 16 (by decide)
  have h2 : (b <<< ((16 : Int32) &&& 31)).toBitVec.toNat = b.toBitVec.toNat * 2 ^ 16 % 2 ^ 32 := pk_shl b _ 16 (by decide)
  unfold sJ
  rw [h1, Int32.toBitVec_or, BitVec.toNat_or, h2, pk_tn (by omega)]
  unfold mN
  have h3 : b.toBitVec.toNat * 2 ^ 16 % 2 ^ 32 = 2 ^ 16 * (b.toBitVec.toNat % 65536) := by omega
  rw [h3, ← Nat.two_pow_add_eq_or_of_lt (by omega)]
  omega
theorem mN_lt (x : Int32) : mN x < 65536 := Nat.mod_lt _ (by decide)
theorem sJ_ext {a b a' b' : Int32} (h1 : mN a = mN a') (h2 : mN b = mN b') : sJ a b = sJ a' b' := by
  apply Int32.toBitVec_inj.mp
  apply BitVec.eq_of_toNat_eq
  rw [sJ_nat, sJ_nat, h1, h2]
theorem sJ_lo (a b : Int32) : mN (sJ a b &&& 65535) = mN a := by
  rw [pk_and _ 16 (by decide)]
  have ha := mN_lt a
  have h := sJ_nat a b
  show (nI ((sJ a b).toBitVec.toNat % 2 ^ 16)).toBitVec.toNat % 65536 = _
  rw [pk_tn (by omega), h]
  omega
theorem sJ_hi (a b : Int32) : mN ((sJ a b).toUInt32 >>> (Int32.toUInt32 16 &&& Int32.toUInt32 31)).toInt32 = mN b := by
  have ha := mN_lt a
  have hb := mN_lt b
  show _ % 65536 = _
  rw [pk_ushr _ 16 16 (by decide), sJ_nat]
  omega
theorem roll (f : Nat → Int32) (p n : Nat) : sJ ((sSum f p n &&& 65535) - f p + f (p + n)) (((sSum f p n).toUInt32 >>> (Int32.toUInt32 16 &&& Int32.toUInt32 31)).toInt32 - nI n * f p + ((sSum f p n &&& 65535) - f p + f (p + n))) = sSum f (p + 1) n := by
  have e1 : mN ((sSum f p n &&& 65535) - f p + f (p + n)) = mN (sA f (p + 1) n) := by
    rw [sA_roll, mN_add, mN_sub, mN_add, mN_sub]
    unfold sSum
    rw [sJ_lo]
  refine sJ_ext e1 ?_
  rw [sB_roll, mN_add, mN_sub, mN_add (sB f p n - nI n * f p), mN_sub, e1]
  unfold sSum
  rw [sJ_hi]
/-! the block at a place -/
theorem hB_congr {dg h h' : Nat → Int32} {wd b : Nat} (hwd : wd ≤ 16) (hh : ∀ j, j < 4 → h j = h' j) : hB dg h wd b = hB dg h' wd b := by
  unfold hB
  rw [Bool.eq_iff_iff, List.all_eq_true, List.all_eq_true]
  constructor
  · intro z k hk
    have := List.mem_range.mp hk
    rw [← dByte_congr hh (by omega)]
    exact z k hk
  · intro z k hk
    have := List.mem_range.mp hk
    rw [dByte_congr hh (by omega)]
    exact z k hk
theorem fnd_congr {sm dg h h' : Nat → Int32} {nb wd : Nat} {x fv : Int32} (hwd : wd ≤ 16) (hh : ∀ j, j < 4 → h j = h' j) : fnd sm dg h nb wd x fv = fnd sm dg h' nb wd x fv := by
  have e : pD sm dg h wd x = pD sm dg h' wd x := by
    funext b
    unfold pD
    rw [hB_congr hwd hh]
  unfold fnd fOk
  rw [e]
theorem fnd_nos {sm dg h : Nat → Int32} {nb wd : Nat} {x fv : Int32} (hn : cN (pS sm x) nb 0 = -1) (hnb : nb ≤ 2000) : fnd sm dg h nb wd x fv = -1 := by
  have hno : ∀ b, b < nb → pS sm x b = false := by
    rcases cN_cases (pS sm x) nb 0 with ⟨_, h2⟩ | ⟨b, _, hb, _, _, e⟩
    · exact fun b hb => h2 b (Nat.zero_le _) hb
    · rw [e] at hn
      have := congrArg Int32.toInt hn
      rw [nI_toInt (by omega), show (-1 : Int32).toInt = -1 by decide] at this
      omega
  have hf : fOk sm dg h nb wd x fv = false := by
    unfold fOk
    by_cases hr : rIn fv nb
    · rw [pD_of_pS (hno _ (i_of hr.1 hr.2).1), Bool.and_false]
    · rw [decide_eq_false hr, Bool.false_and]
  rw [fnd, hf, if_neg (by decide), cN_none (fun b _ hb => pD_of_pS (hno b hb))]
theorem fnd_cases (sm dg h : Nat → Int32) (nb wd : Nat) (x fv : Int32) : fnd sm dg h nb wd x fv = -1 ∨ ∃ bn, bn < nb ∧ fnd sm dg h nb wd x fv = nI bn := by
  by_cases hf : fOk sm dg h nb wd x fv = true
  · rw [fnd, if_pos hf]
    unfold fOk at hf
    have hr := of_decide_eq_true (Bool.and_eq_true_iff.mp hf).1
    exact Or.inr ⟨_, (i_of hr.1 hr.2).1, (i_of hr.1 hr.2).2.1⟩
  · rw [fnd, if_neg hf]
    rcases cN_cases (pD sm dg h wd x) nb 0 with ⟨e, _⟩ | ⟨b, _, hb, _, _, e⟩
    · exact Or.inl e
    · exact Or.inr ⟨b, hb, e⟩
def lF (la : Int32) : Int32 := if la = -1 then -1 else la + 1
def tB (f : Nat → Int32) (kn bs wd nb : Nat) (sm dg : Nat → Int32) (p : Nat) (la : Int32) : Int32 := if p + bs ≤ kn then fnd sm dg (mDig f p bs) nb wd (sSum f p bs) (lF la) else -1
def tA (f : Nat → Int32) (kn bs wd nb : Nat) (sm dg : Nat → Int32) (p : Nat) (la : Int32) : Nat := if p + bs ≤ kn ∧ ¬ cN (pS sm (sSum f p bs)) nb 0 = -1 ∧ tB f kn bs wd nb sm dg p la = -1 then 1 else 0
set_option maxHeartbeats 4000000 in
set_option maxRecDepth 100000 in
theorem c_rolled (l : Launch) (D : va_G) (cI cB : ClassId) (z : Nat) (so : Nat) (tg : Nat) (g : Nat) (o : Nat) (rf : Nat) (lt : Nat) (ro : Nat) (al : Nat) (ir : Nat) (ia : Nat) (la : Int32) (as_ : Nat) (ms : Nat) (kn : Nat) (ns : Nat) (f : Nat → Int32) (p : Nat) (bs : Nat) (hkn : kn ≤ ns) (hns : ns ≤ ms) (hms : ms ≤ 8000) (hpb : p + bs + 1 ≤ kn) : kC l yX3_rolled cX3_rolled 7 (some .int) 1 22 (0) (0) D cI cB [.ref z, .int (sSum f p bs), .int (nI p), .int (nI bs)] [(z, .inr (3, [.ref so, .ref tg, .ref g, .ref o, .int (nI rf), .int (nI lt), .int (nI ro), .int (nI al), .int (nI ir), .int (nI ia), .int la])), (so, .inr (1, [.int (nI ms), .ref as_, .int (nI kn)])), (as_, .inl (cI, ns, .inl f))] (fun (vV : Option Value) (uU : va_W) => vV = some (.int (sSum f (p + 1) bs)) ∧ uU = [(z, .inr (3, [.ref so, .ref tg, .ref g, .ref o, .int (nI rf), .int (nI lt), .int (nI ro), .int (nI al), .int (nI ir), .int (nI ia), .int la])), (so, .inr (1, [.int (nI ms), .ref as_, .int (nI kn)])), (as_, .inl (cI, ns, .inl f))]) := by
  refine k_entry (lv0 := [(0, .ref z), (1, .int (sSum f p bs)), (2, .int (nI p)), (3, .int (nI bs))]) (by decide) (Nat.le_of_ble_eq_true rfl) rfl ?_
  intro zp ze zs zm zb zt zc zA X hr hin
  refine k_aload_n X dX3_rolled_0 rfl 0 rfl ?_
  refine k_get (v := .ref so) X 0 3 0 rfl rfl (by decide) fl_X3_9 in_X3 rfl rfl dX3_rolled_1 ?_
  refine k_iload_n X dX3_rolled_4 rfl 2 rfl ?_
  refine k_iload_n X dX3_rolled_5 rfl 3 rfl ?_
  refine k_iconst (v := 1) X dX3_rolled_6 (by decide) ?_
  refine k_iadd X dX3_rolled_7 ?_
  refine k_as (y := nI (bs + 1)) (nI_1 _) ?_
  refine k_callV (wc := [(so, .inr (1, [.int (nI ms), .ref as_, .int (nI kn)]))]) (wr := [(z, .inr (3, [.ref so, .ref tg, .ref g, .ref o, .int (nI rf), .int (nI lt), .int (nI ro), .int (nI al), .int (nI ir), .int (nI ia), .int la])), (as_, .inl (cI, ns, .inl f))]) (As := [.int (nI p), .int (nI (bs + 1))]) (n := 2) (st := []) (q0 := 0) X (c_holds l D cI cB so as_ ms kn (nI p) (nI (bs + 1)) (by omega)) rfl rfl ml_X3_60 im_X1_holds se_X1_holds ini_X1 co_X1_holds (by decide +kernel) rfl ⟨Nat.le_of_ble_eq_true rfl, Nat.le_of_ble_eq_true rfl⟩ (⟨by (try dsimp only); omega, by (try dsimp only); omega⟩) (Nat.le_of_ble_eq_true rfl) [1] [0, 2] rfl rfl rfl (by decide) (by decide) (by decide) rfl dX3_rolled_8 (fun v_8 u_8 hu_8 => ?_)
  obtain ⟨rfl, rfl⟩ := hu_8
  refine k_to (ws' := [(z, .inr (3, [.ref so, .ref tg, .ref g, .ref o, .int (nI rf), .int (nI lt), .int (nI ro), .int (nI al), .int (nI ir), .int (nI ia), .int la])), (as_, .inl (cI, ns, .inl f)), (so, .inr (1, [.int (nI ms), .ref as_, .int (nI kn)]))]) (st' := [.int (b2i (decide (rHolds (nI p) (nI (bs + 1)) kn)))]) rfl rfl ?_
  refine k_as (y := 1) (b2i_t ((rHolds_iff (by omega) (by omega)).mpr (by omega))) ?_
  refine k_if_ne (tgt := 16) (xi := (1 : Int)) X (by decide) dX3_rolled_11 (by decide) (fun c_11 => ?_) (fun c_11 => ?_)
  · refine k_aload_n X dX3_rolled_16 rfl 0 rfl ?_
    refine k_get (v := .ref so) X 0 3 0 rfl rfl (by decide) fl_X3_9 in_X3 rfl rfl dX3_rolled_17 ?_
    refine k_iload_n X dX3_rolled_20 rfl 2 rfl ?_
    refine k_callV (wc := [(so, .inr (1, [.int (nI ms), .ref as_, .int (nI kn)])), (as_, .inl (cI, ns, .inl f))]) (wr := [(z, .inr (3, [.ref so, .ref tg, .ref g, .ref o, .int (nI rf), .int (nI lt), .int (nI ro), .int (nI al), .int (nI ir), .int (nI ia), .int la]))]) (As := [.int (nI p)]) (n := 1) (st := []) (q0 := 0) X (c_get l D cI cB so as_ ms kn ns f (nI p) (hkn) (hns) (hms)) rfl rfl ml_X3_68 im_X1_get se_X1_get ini_X1 co_X1_get (by decide +kernel) rfl ⟨Nat.le_of_ble_eq_true rfl, Nat.le_of_ble_eq_true rfl⟩ (⟨by (try dsimp only); omega, by (try dsimp only); omega⟩) (Nat.le_of_ble_eq_true rfl) [2, 1] [0] rfl rfl rfl (by decide) (by decide) (by decide) rfl dX3_rolled_21 (fun v_21 u_21 hu_21 => ?_)
    obtain ⟨rfl, rfl⟩ := hu_21
    refine k_to (ws' := [(z, .inr (3, [.ref so, .ref tg, .ref g, .ref o, .int (nI rf), .int (nI lt), .int (nI ro), .int (nI al), .int (nI ir), .int (nI ia), .int la])), (so, .inr (1, [.int (nI ms), .ref as_, .int (nI kn)])), (as_, .inl (cI, ns, .inl f))]) (st' := [.int (rGet f kn (nI p))]) rfl rfl ?_
    refine k_as (y := f p) (rGet_nI (by omega) (by omega)) ?_
    refine k_istore (lv' := [(4, .int (f p)), (0, .ref z), (1, .int (sSum f p bs)), (2, .int (nI p)), (3, .int (nI bs))]) X dX3_rolled_24 (by decide) rfl ?_
    refine k_iload_n X dX3_rolled_26 rfl 2 rfl ?_
    refine k_ldc X kc_X3_105 dX3_rolled_27 ?_
    refine k_iand X dX3_rolled_29 ?_
    refine k_iload X dX3_rolled_30 0 rfl ?_
    refine k_isub X dX3_rolled_32 ?_
    refine k_aload_n X dX3_rolled_33 rfl 1 rfl ?_
    refine k_get (v := .ref so) X 0 3 0 rfl rfl (by decide) fl_X3_9 in_X3 rfl rfl dX3_rolled_34 ?_
    refine k_iload_n X dX3_rolled_37 rfl 3 rfl ?_
    refine k_iload_n X dX3_rolled_38 rfl 4 rfl ?_
    refine k_iadd X dX3_rolled_39 ?_
    refine k_as (y := nI (p + bs)) (nI_add _ _) ?_
    refine k_callV (wc := [(so, .inr (1, [.int (nI ms), .ref as_, .int (nI kn)])), (as_, .inl (cI, ns, .inl f))]) (wr := [(z, .inr (3, [.ref so, .ref tg, .ref g, .ref o, .int (nI rf), .int (nI lt), .int (nI ro), .int (nI al), .int (nI ir), .int (nI ia), .int la]))]) (As := [.int (nI (p + bs))]) (n := 1) (st := [.int (((sSum f p bs) &&& 65535) - (f p))]) (q0 := 0) X (c_get l D cI cB so as_ ms kn ns f (nI (p + bs)) (hkn) (hns) (hms)) rfl rfl ml_X3_68 im_X1_get se_X1_get ini_X1 co_X1_get (by decide +kernel) rfl ⟨Nat.le_of_ble_eq_true rfl, Nat.le_of_ble_eq_true rfl⟩ (⟨by (try dsimp only); omega, by (try dsimp only); omega⟩) (Nat.le_of_ble_eq_true rfl) [1, 2] [0] rfl rfl rfl (by decide) (by decide) (by decide) rfl dX3_rolled_40 (fun v_40 u_40 hu_40 => ?_)
    obtain ⟨rfl, rfl⟩ := hu_40
    refine k_to (ws' := [(z, .inr (3, [.ref so, .ref tg, .ref g, .ref o, .int (nI rf), .int (nI lt), .int (nI ro), .int (nI al), .int (nI ir), .int (nI ia), .int la])), (so, .inr (1, [.int (nI ms), .ref as_, .int (nI kn)])), (as_, .inl (cI, ns, .inl f))]) (st' := [.int (rGet f kn (nI (p + bs))), .int (((sSum f p bs) &&& 65535) - (f p))]) rfl rfl ?_
    refine k_as (y := f (p + bs)) (rGet_nI (by omega) (by omega)) ?_
    refine k_iadd X dX3_rolled_43 ?_
    refine k_istore (lv' := [(5, .int ((((sSum f p bs) &&& 65535) - (f p)) + (f (p + bs)))), (4, .int (f p)), (0, .ref z), (1, .int (sSum f p bs)), (2, .int (nI p)), (3, .int (nI bs))]) X dX3_rolled_44 (by decide) rfl ?_
    refine k_iload_n X dX3_rolled_46 rfl 3 rfl ?_
    refine k_bipush (v := 16) X dX3_rolled_47 (by decide) ?_
    refine k_iushr (v := ((sSum f p bs).toUInt32 >>> (Int32.toUInt32 16 &&& Int32.toUInt32 31)).toInt32) X dX3_rolled_49 rfl ?_
    refine k_iload_n X dX3_rolled_50 rfl 5 rfl ?_
    refine k_iload X dX3_rolled_51 1 rfl ?_
    refine k_imul X dX3_rolled_53 ?_
    refine k_isub X dX3_rolled_54 ?_
    refine k_iload X dX3_rolled_55 0 rfl ?_
    refine k_iadd X dX3_rolled_57 ?_
    refine k_istore (lv' := [(6, .int (((((sSum f p bs).toUInt32 >>> (Int32.toUInt32 16 &&& Int32.toUInt32 31)).toInt32) - ((nI bs) * (f p))) + ((((sSum f p bs) &&& 65535) - (f p)) + (f (p + bs))))), (5, .int ((((sSum f p bs) &&& 65535) - (f p)) + (f (p + bs)))), (4, .int (f p)), (0, .ref z), (1, .int (sSum f p bs)), (2, .int (nI p)), (3, .int (nI bs))]) X dX3_rolled_58 (by decide) rfl ?_
    refine k_iload X dX3_rolled_60 1 rfl ?_
    refine k_iload X dX3_rolled_62 0 rfl ?_
    refine k_callS (wc := []) (wr := [(z, .inr (3, [.ref so, .ref tg, .ref g, .ref o, .int (nI rf), .int (nI lt), .int (nI ro), .int (nI al), .int (nI ir), .int (nI ia), .int la])), (so, .inr (1, [.int (nI ms), .ref as_, .int (nI kn)])), (as_, .inl (cI, ns, .inl f))]) (As := [.int ((((sSum f p bs) &&& 65535) - (f p)) + (f (p + bs))), .int (((((sSum f p bs).toUInt32 >>> (Int32.toUInt32 16 &&& Int32.toUInt32 31)).toInt32) - ((nI bs) * (f p))) + ((((sSum f p bs) &&& 65535) - (f p)) + (f (p + bs))))]) (n := 2) (st := []) X (c_joined l D cI cB ((((sSum f p bs) &&& 65535) - (f p)) + (f (p + bs))) (((((sSum f p bs).toUInt32 >>> (Int32.toUInt32 16 &&& Int32.toUInt32 31)).toInt32) - ((nI bs) * (f p))) + ((((sSum f p bs) &&& 65535) - (f p)) + (f (p + bs)))) ) ml_X3_106 sm_X1_joined ini_X1 co_X1_joined (by decide +kernel) rfl ⟨Nat.le_of_ble_eq_true rfl, Nat.le_of_ble_eq_true rfl⟩ (⟨by (try dsimp only); omega, by (try dsimp only); omega⟩) (Nat.le_of_ble_eq_true rfl) [] [0, 1, 2] rfl rfl rfl (by decide) (by decide) (by decide) rfl dX3_rolled_64 (fun v_64 u_64 hu_64 => ?_)
    obtain ⟨rfl, rfl⟩ := hu_64
    refine k_to (ws' := [(z, .inr (3, [.ref so, .ref tg, .ref g, .ref o, .int (nI rf), .int (nI lt), .int (nI ro), .int (nI al), .int (nI ir), .int (nI ia), .int la])), (so, .inr (1, [.int (nI ms), .ref as_, .int (nI kn)])), (as_, .inl (cI, ns, .inl f))]) (st' := [.int (sJ ((((sSum f p bs) &&& 65535) - (f p)) + (f (p + bs))) (((((sSum f p bs).toUInt32 >>> (Int32.toUInt32 16 &&& Int32.toUInt32 31)).toInt32) - ((nI bs) * (f p))) + ((((sSum f p bs) &&& 65535) - (f p)) + (f (p + bs)))))]) rfl rfl ?_
    refine k_as (y := sSum f (p + 1) bs) (roll f p bs) ?_
    exact k_iret (u := [(z, .inr (3, [.ref so, .ref tg, .ref g, .ref o, .int (nI rf), .int (nI lt), .int (nI ro), .int (nI al), .int (nI ir), .int (nI ia), .int la])), (so, .inr (1, [.int (nI ms), .ref as_, .int (nI kn)])), (as_, .inl (cI, ns, .inl f))]) X hr [0, 1, 2] (by decide) rfl rfl (⟨rfl, rfl⟩) (by (try dsimp only); omega) (by (try dsimp only); omega) dX3_rolled_67
  · exact absurd c_11 (by decide)
set_option maxHeartbeats 4000000 in
set_option maxRecDepth 100000 in
theorem c_rolled_f (l : Launch) (D : va_G) (cI cB : ClassId) (z : Nat) (so : Nat) (tg : Nat) (g : Nat) (o : Nat) (rf : Nat) (lt : Nat) (ro : Nat) (al : Nat) (ir : Nat) (ia : Nat) (la : Int32) (as_ : Nat) (ms : Nat) (kn : Nat) (ns : Nat) (f : Nat → Int32) (p : Nat) (bs : Nat) (sv : Int32) (hkn : kn ≤ ns) (hns : ns ≤ ms) (hms : ms ≤ 8000) (hp : p ≤ 8000) (hbs : bs ≤ 256) (hpb : ¬ p + bs + 1 ≤ kn) : kC l yX3_rolled cX3_rolled 7 (some .int) 1 22 (0) (0) D cI cB [.ref z, .int sv, .int (nI p), .int (nI bs)] [(z, .inr (3, [.ref so, .ref tg, .ref g, .ref o, .int (nI rf), .int (nI lt), .int (nI ro), .int (nI al), .int (nI ir), .int (nI ia), .int la])), (so, .inr (1, [.int (nI ms), .ref as_, .int (nI kn)])), (as_, .inl (cI, ns, .inl f))] (fun (vV : Option Value) (uU : va_W) => vV = some (.int 0) ∧ uU = [(z, .inr (3, [.ref so, .ref tg, .ref g, .ref o, .int (nI rf), .int (nI lt), .int (nI ro), .int (nI al), .int (nI ir), .int (nI ia), .int la])), (so, .inr (1, [.int (nI ms), .ref as_, .int (nI kn)])), (as_, .inl (cI, ns, .inl f))]) := by
  refine k_entry (lv0 := [(0, .ref z), (1, .int sv), (2, .int (nI p)), (3, .int (nI bs))]) (by decide) (Nat.le_of_ble_eq_true rfl) rfl ?_
  intro zp ze zs zm zb zt zc zA X hr hin
  refine k_aload_n X dX3_rolled_0 rfl 0 rfl ?_
  refine k_get (v := .ref so) X 0 3 0 rfl rfl (by decide) fl_X3_9 in_X3 rfl rfl dX3_rolled_1 ?_
  refine k_iload_n X dX3_rolled_4 rfl 2 rfl ?_
  refine k_iload_n X dX3_rolled_5 rfl 3 rfl ?_
  refine k_iconst (v := 1) X dX3_rolled_6 (by decide) ?_
  refine k_iadd X dX3_rolled_7 ?_
  refine k_as (y := nI (bs + 1)) (nI_1 _) ?_
  refine k_callV (wc := [(so, .inr (1, [.int (nI ms), .ref as_, .int (nI kn)]))]) (wr := [(z, .inr (3, [.ref so, .ref tg, .ref g, .ref o, .int (nI rf), .int (nI lt), .int (nI ro), .int (nI al), .int (nI ir), .int (nI ia), .int la])), (as_, .inl (cI, ns, .inl f))]) (As := [.int (nI p), .int (nI (bs + 1))]) (n := 2) (st := []) (q0 := 0) X (c_holds l D cI cB so as_ ms kn (nI p) (nI (bs + 1)) (by omega)) rfl rfl ml_X3_60 im_X1_holds se_X1_holds ini_X1 co_X1_holds (by decide +kernel) rfl ⟨Nat.le_of_ble_eq_true rfl, Nat.le_of_ble_eq_true rfl⟩ (⟨by (try dsimp only); omega, by (try dsimp only); omega⟩) (Nat.le_of_ble_eq_true rfl) [1] [0, 2] rfl rfl rfl (by decide) (by decide) (by decide) rfl dX3_rolled_8 (fun v_8 u_8 hu_8 => ?_)
  obtain ⟨rfl, rfl⟩ := hu_8
  refine k_to (ws' := [(z, .inr (3, [.ref so, .ref tg, .ref g, .ref o, .int (nI rf), .int (nI lt), .int (nI ro), .int (nI al), .int (nI ir), .int (nI ia), .int la])), (as_, .inl (cI, ns, .inl f)), (so, .inr (1, [.int (nI ms), .ref as_, .int (nI kn)]))]) (st' := [.int (b2i (decide (rHolds (nI p) (nI (bs + 1)) kn)))]) rfl rfl ?_
  refine k_as (y := 0) (b2i_f (fun z => hpb (by have := (rHolds_iff (by omega) (by omega)).mp z; omega))) ?_
  refine k_if_ne (tgt := 16) (xi := (0 : Int)) X (by decide) dX3_rolled_11 (by decide) (fun c_11 => ?_) (fun c_11 => ?_)
  · exact absurd c_11 (by decide)
  · refine k_iconst (v := 0) X dX3_rolled_14 (by decide) ?_
    exact k_iret (u := [(z, .inr (3, [.ref so, .ref tg, .ref g, .ref o, .int (nI rf), .int (nI lt), .int (nI ro), .int (nI al), .int (nI ir), .int (nI ia), .int la])), (so, .inr (1, [.int (nI ms), .ref as_, .int (nI kn)])), (as_, .inl (cI, ns, .inl f))]) X hr [0, 2, 1] (by decide) rfl rfl (⟨rfl, rfl⟩) (by (try dsimp only); omega) (by (try dsimp only); omega) dX3_rolled_15
set_option maxHeartbeats 4000000 in
set_option maxRecDepth 100000 in
theorem c_blockFor (l : Launch) (D : va_G) (cI cB : ClassId) (z : Nat) (so : Nat) (tg : Nat) (g : Nat) (o : Nat) (rf : Nat) (lt : Nat) (ro : Nat) (al : Nat) (ir : Nat) (ia : Nat) (la : Int32) (qs : Nat) (qd : Nat) (qh : Nat) (qn : Nat) (bs : Nat) (wd : Nat) (nb : Nat) (N : Nat) (sm : Nat → Int32) (dg : Nat → Int32) (hd : Nat → Int32) (nx : Nat → Int32) (aw : Nat) (ah : Nat) (w : Nat → Int32) (h : Nat → Int32) (as_ : Nat) (ms : Nat) (kn : Nat) (ns : Nat) (f : Nat → Int32) (p : Nat) (hN : nb ≤ N) (hN2 : N ≤ 2000) (hch : kChain nb sm hd nx) (hwd : wd ≤ 16) (hbs : bs ≤ 256) (hkn : kn ≤ ns) (hns : ns ≤ ms) (hms : ms ≤ 8000) (hpb : p + bs ≤ kn) : kC l yX3_blockFor cX3_blockFor 6 (some .int) 4 91 (0) (0) D cI cB [.ref z, .int (nI p), .int (nI bs), .int (sSum f p bs)] [(z, .inr (3, [.ref so, .ref tg, .ref g, .ref o, .int (nI rf), .int (nI lt), .int (nI ro), .int (nI al), .int (nI ir), .int (nI ia), .int la])), (g, .inr (2, [.int (nI bs), .int (nI wd), .int (nI nb), .ref qs, .ref qd, .ref qh, .ref qn])), (qs, .inl (cI, N, .inl sm)), (qd, .inl (cB, (16 * N), .inl dg)), (qh, .inl (cI, 256, .inl hd)), (qn, .inl (cI, N, .inl nx)), (o, .inr (0, [.ref aw, .ref ah])), (aw, .inl (cI, 16, .inl w)), (ah, .inl (cI, 4, .inl h)), (so, .inr (1, [.int (nI ms), .ref as_, .int (nI kn)])), (as_, .inl (cI, ns, .inl f))] (fun (vV : Option Value) (uU : va_W) => ∃ (w2 : Nat → Int32) (h2 : Nat → Int32), vV = some (.int (fnd sm dg (mDig f p bs) nb wd (sSum f p bs) (lF la))) ∧ uU = [(z, .inr (3, [.ref so, .ref tg, .ref g, .ref o, .int (nI rf), .int (nI lt), .int (nI ro), .int (nI (al + (if ¬ cN (pS sm (sSum f p bs)) nb 0 = -1 ∧ fnd sm dg (mDig f p bs) nb wd (sSum f p bs) (lF la) = -1 then 1 else 0))), .int (nI ir), .int (nI ia), .int la])), (g, .inr (2, [.int (nI bs), .int (nI wd), .int (nI nb), .ref qs, .ref qd, .ref qh, .ref qn])), (qs, .inl (cI, N, .inl sm)), (qd, .inl (cB, (16 * N), .inl dg)), (qh, .inl (cI, 256, .inl hd)), (qn, .inl (cI, N, .inl nx)), (o, .inr (0, [.ref aw, .ref ah])), (aw, .inl (cI, 16, .inl w2)), (ah, .inl (cI, 4, .inl h2)), (so, .inr (1, [.int (nI ms), .ref as_, .int (nI kn)])), (as_, .inl (cI, ns, .inl f))]) := by
  refine k_entry (lv0 := [(0, .ref z), (1, .int (nI p)), (2, .int (nI bs)), (3, .int (sSum f p bs))]) (by decide) (Nat.le_of_ble_eq_true rfl) rfl ?_
  intro zp ze zs zm zb zt zc zA X hr hin
  refine k_aload_n X dX3_blockFor_0 rfl 0 rfl ?_
  refine k_get (v := .ref g) X 0 3 2 rfl rfl (by decide) fl_X3_18 in_X3 rfl rfl dX3_blockFor_1 ?_
  refine k_iload_n X dX3_blockFor_4 rfl 3 rfl ?_
  refine k_callV (wc := [(g, .inr (2, [.int (nI bs), .int (nI wd), .int (nI nb), .ref qs, .ref qd, .ref qh, .ref qn])), (qs, .inl (cI, N, .inl sm)), (qh, .inl (cI, 256, .inl hd)), (qn, .inl (cI, N, .inl nx))]) (wr := [(z, .inr (3, [.ref so, .ref tg, .ref g, .ref o, .int (nI rf), .int (nI lt), .int (nI ro), .int (nI al), .int (nI ir), .int (nI ia), .int la])), (qd, .inl (cB, (16 * N), .inl dg)), (o, .inr (0, [.ref aw, .ref ah])), (aw, .inl (cI, 16, .inl w)), (ah, .inl (cI, 4, .inl h)), (so, .inr (1, [.int (nI ms), .ref as_, .int (nI kn)])), (as_, .inl (cI, ns, .inl f))]) (As := [.int (sSum f p bs)]) (n := 1) (st := []) (q0 := 0) X (c_hasSum l D cI cB g qs qd qh qn bs wd nb N sm hd nx (sSum f p bs) (hN) (hN2) (hch)) rfl rfl ml_X3_91 im_X2_hasSum se_X2_hasSum ini_X2 co_X2_hasSum (by decide +kernel) rfl ⟨Nat.le_of_ble_eq_true rfl, Nat.le_of_ble_eq_true rfl⟩ (⟨by (try dsimp only); omega, by (try dsimp only); omega⟩) (Nat.le_of_ble_eq_true rfl) [1, 2, 4, 5] [0, 3, 6, 7, 8, 9, 10] rfl rfl rfl (by decide) (by decide) (by decide) rfl dX3_blockFor_5 (fun v_5 u_5 hu_5 => ?_)
  obtain ⟨rfl, rfl⟩ := hu_5
  refine k_to (ws' := [(z, .inr (3, [.ref so, .ref tg, .ref g, .ref o, .int (nI rf), .int (nI lt), .int (nI ro), .int (nI al), .int (nI ir), .int (nI ia), .int la])), (qd, .inl (cB, (16 * N), .inl dg)), (o, .inr (0, [.ref aw, .ref ah])), (aw, .inl (cI, 16, .inl w)), (ah, .inl (cI, 4, .inl h)), (so, .inr (1, [.int (nI ms), .ref as_, .int (nI kn)])), (as_, .inl (cI, ns, .inl f)), (g, .inr (2, [.int (nI bs), .int (nI wd), .int (nI nb), .ref qs, .ref qd, .ref qh, .ref qn])), (qs, .inl (cI, N, .inl sm)), (qh, .inl (cI, 256, .inl hd)), (qn, .inl (cI, N, .inl nx))]) (st' := [.int (b2i (decide (¬ cN (pS sm (sSum f p bs)) nb 0 = -1)))]) rfl rfl ?_
  by_cases hns0 : cN (pS sm (sSum f p bs)) nb 0 = -1
  · refine k_as (y := 0) (b2i_f (q := ¬ cN (pS sm (sSum f p bs)) nb 0 = -1) (fun z => z hns0)) ?_
    refine k_if_ne (tgt := 13) (xi := (0 : Int)) X (by decide) dX3_blockFor_8 (by decide) (fun c_8 => ?_) (fun c_8 => ?_)
    · exact absurd c_8 (by decide)
    · refine k_iconst (v := -1) X dX3_blockFor_11 (by decide) ?_
      exact k_iret (u := [(z, .inr (3, [.ref so, .ref tg, .ref g, .ref o, .int (nI rf), .int (nI lt), .int (nI ro), .int (nI al), .int (nI ir), .int (nI ia), .int la])), (g, .inr (2, [.int (nI bs), .int (nI wd), .int (nI nb), .ref qs, .ref qd, .ref qh, .ref qn])), (qs, .inl (cI, N, .inl sm)), (qd, .inl (cB, (16 * N), .inl dg)), (qh, .inl (cI, 256, .inl hd)), (qn, .inl (cI, N, .inl nx)), (o, .inr (0, [.ref aw, .ref ah])), (aw, .inl (cI, 16, .inl w)), (ah, .inl (cI, 4, .inl h)), (so, .inr (1, [.int (nI ms), .ref as_, .int (nI kn)])), (as_, .inl (cI, ns, .inl f))]) X hr [0, 7, 8, 1, 9, 10, 2, 3, 4, 5, 6] (by decide) rfl rfl (⟨w, h, by rw [fnd_nos hns0 (by omega)], by rw [if_neg (fun z => z.1 hns0)]; rfl⟩) (by (try dsimp only); omega) (by (try dsimp only); omega) dX3_blockFor_12
  · refine k_as (y := 1) (b2i_t (q := ¬ cN (pS sm (sSum f p bs)) nb 0 = -1) hns0) ?_
    refine k_if_ne (tgt := 13) (xi := (1 : Int)) X (by decide) dX3_blockFor_8 (by decide) (fun c_8 => ?_) (fun c_8 => ?_)
    · refine k_aload_n X dX3_blockFor_13 rfl 0 rfl ?_
      refine k_get (v := .ref o) X 0 3 3 rfl rfl (by decide) fl_X3_22 in_X3 rfl rfl dX3_blockFor_14 ?_
      refine k_aload_n X dX3_blockFor_17 rfl 0 rfl ?_
      refine k_get (v := .ref so) X 0 3 0 rfl rfl (by decide) fl_X3_9 in_X3 rfl rfl dX3_blockFor_18 ?_
      refine k_iload_n X dX3_blockFor_21 rfl 1 rfl ?_
      refine k_iload_n X dX3_blockFor_22 rfl 2 rfl ?_
      refine k_callV (wc := [(o, .inr (0, [.ref aw, .ref ah])), (aw, .inl (cI, 16, .inl w)), (ah, .inl (cI, 4, .inl h)), (so, .inr (1, [.int (nI ms), .ref as_, .int (nI kn)])), (as_, .inl (cI, ns, .inl f))]) (wr := [(z, .inr (3, [.ref so, .ref tg, .ref g, .ref o, .int (nI rf), .int (nI lt), .int (nI ro), .int (nI al), .int (nI ir), .int (nI ia), .int la])), (qd, .inl (cB, (16 * N), .inl dg)), (g, .inr (2, [.int (nI bs), .int (nI wd), .int (nI nb), .ref qs, .ref qd, .ref qh, .ref qn])), (qs, .inl (cI, N, .inl sm)), (qh, .inl (cI, 256, .inl hd)), (qn, .inl (cI, N, .inl nx))]) (As := [.ref so, .int (nI p), .int (nI bs)]) (n := 3) (st := []) (q0 := 0) X (c_take l D cI cB o aw ah w h so as_ ms kn ns f p bs (hkn) (hns) (hms) (hpb) (by omega)) rfl rfl ml_X3_95 im_X0_take se_X0_take ini_X0 co_X0_take (by decide +kernel) rfl ⟨Nat.le_of_ble_eq_true rfl, Nat.le_of_ble_eq_true rfl⟩ (⟨by (try dsimp only); omega, by (try dsimp only); omega⟩) (Nat.le_of_ble_eq_true rfl) [2, 3, 4, 5, 6] [0, 1, 7, 8, 9, 10] rfl rfl rfl (by decide) (by decide) (by decide) rfl dX3_blockFor_23 (fun v_23 u_23 hu_23 => ?_)
      obtain ⟨w3, h3, rfl, rfl, hh3⟩ := hu_23
      refine k_to (ws' := [(z, .inr (3, [.ref so, .ref tg, .ref g, .ref o, .int (nI rf), .int (nI lt), .int (nI ro), .int (nI al), .int (nI ir), .int (nI ia), .int la])), (qd, .inl (cB, (16 * N), .inl dg)), (g, .inr (2, [.int (nI bs), .int (nI wd), .int (nI nb), .ref qs, .ref qd, .ref qh, .ref qn])), (qs, .inl (cI, N, .inl sm)), (qh, .inl (cI, 256, .inl hd)), (qn, .inl (cI, N, .inl nx)), (o, .inr (0, [.ref aw, .ref ah])), (aw, .inl (cI, 16, .inl w3)), (ah, .inl (cI, 4, .inl h3)), (so, .inr (1, [.int (nI ms), .ref as_, .int (nI kn)])), (as_, .inl (cI, ns, .inl f))]) (st' := []) rfl rfl ?_
      refine k_aload_n X dX3_blockFor_26 rfl 0 rfl ?_
      refine k_get (v := .int la) X 0 3 10 rfl rfl (by decide) fl_X3_88 in_X3 rfl rfl dX3_blockFor_27 ?_
      refine k_iconst (v := -1) X dX3_blockFor_30 (by decide) ?_
      refine k_icmp_ne (tgt := 38) (xi := la.toInt) (yi := (-1 : Int)) X (rfl) (by decide) dX3_blockFor_31 (by decide) (fun c_31 => ?_) (fun c_31 => ?_)
      · refine k_aload_n X dX3_blockFor_38 rfl 0 rfl ?_
        refine k_get (v := .int la) X 0 3 10 rfl rfl (by decide) fl_X3_88 in_X3 rfl rfl dX3_blockFor_39 ?_
        refine k_iconst (v := 1) X dX3_blockFor_42 (by decide) ?_
        refine k_iadd X dX3_blockFor_43 ?_
        refine k_as (y := lF la) (by rw [lF, if_neg (fun z => c_31 (by rw [z]; decide))]) ?_
        refine k_istore (lv' := [(4, .int (lF la)), (0, .ref z), (1, .int (nI p)), (2, .int (nI bs)), (3, .int (sSum f p bs))]) X dX3_blockFor_44 (by decide) rfl ?_
        refine k_aload_n X dX3_blockFor_46 rfl 1 rfl ?_
        refine k_get (v := .ref g) X 0 3 2 rfl rfl (by decide) fl_X3_18 in_X3 rfl rfl dX3_blockFor_47 ?_
        refine k_iload_n X dX3_blockFor_50 rfl 4 rfl ?_
        refine k_aload_n X dX3_blockFor_51 rfl 1 rfl ?_
        refine k_get (v := .ref o) X 0 3 3 rfl rfl (by decide) fl_X3_22 in_X3 rfl rfl dX3_blockFor_52 ?_
        refine k_iload X dX3_blockFor_55 0 rfl ?_
        refine k_callV (wc := [(g, .inr (2, [.int (nI bs), .int (nI wd), .int (nI nb), .ref qs, .ref qd, .ref qh, .ref qn])), (qs, .inl (cI, N, .inl sm)), (qd, .inl (cB, (16 * N), .inl dg)), (qh, .inl (cI, 256, .inl hd)), (qn, .inl (cI, N, .inl nx)), (o, .inr (0, [.ref aw, .ref ah])), (ah, .inl (cI, 4, .inl h3))]) (wr := [(z, .inr (3, [.ref so, .ref tg, .ref g, .ref o, .int (nI rf), .int (nI lt), .int (nI ro), .int (nI al), .int (nI ir), .int (nI ia), .int la])), (aw, .inl (cI, 16, .inl w3)), (so, .inr (1, [.int (nI ms), .ref as_, .int (nI kn)])), (as_, .inl (cI, ns, .inl f))]) (As := [.int (sSum f p bs), .ref o, .int (lF la)]) (n := 3) (st := []) (q0 := 0) X (c_find l D cI cB g qs qd qh qn bs wd nb N sm dg hd nx o aw ah h3 (sSum f p bs) (lF la) (hN) (hN2) (hch) (hwd)) rfl rfl ml_X3_101 im_X2_find se_X2_find ini_X2 co_X2_find (by decide +kernel) rfl ⟨Nat.le_of_ble_eq_true rfl, Nat.le_of_ble_eq_true rfl⟩ (⟨by (try dsimp only); omega, by (try dsimp only); omega⟩) (Nat.le_of_ble_eq_true rfl) [2, 3, 1, 4, 5, 6, 8] [0, 7, 9, 10] rfl rfl rfl (by decide) (by decide) (by decide) rfl dX3_blockFor_57 (fun v_57 u_57 hu_57 => ?_)
        obtain ⟨rfl, rfl⟩ := hu_57
        refine k_to (ws' := [(z, .inr (3, [.ref so, .ref tg, .ref g, .ref o, .int (nI rf), .int (nI lt), .int (nI ro), .int (nI al), .int (nI ir), .int (nI ia), .int la])), (aw, .inl (cI, 16, .inl w3)), (so, .inr (1, [.int (nI ms), .ref as_, .int (nI kn)])), (as_, .inl (cI, ns, .inl f)), (g, .inr (2, [.int (nI bs), .int (nI wd), .int (nI nb), .ref qs, .ref qd, .ref qh, .ref qn])), (qs, .inl (cI, N, .inl sm)), (qd, .inl (cB, (16 * N), .inl dg)), (qh, .inl (cI, 256, .inl hd)), (qn, .inl (cI, N, .inl nx)), (o, .inr (0, [.ref aw, .ref ah])), (ah, .inl (cI, 4, .inl h3))]) (st' := [.int (fnd sm dg h3 nb wd (sSum f p bs) (lF la))]) rfl rfl ?_
        refine k_as (y := fnd sm dg (mDig f p bs) nb wd (sSum f p bs) (lF la)) (fnd_congr hwd hh3) ?_
        refine k_istore (lv' := [(5, .int (fnd sm dg (mDig f p bs) nb wd (sSum f p bs) (lF la))), (4, .int (lF la)), (0, .ref z), (1, .int (nI p)), (2, .int (nI bs)), (3, .int (sSum f p bs))]) X dX3_blockFor_60 (by decide) rfl ?_
        refine k_iload X dX3_blockFor_62 0 rfl ?_
        refine k_iconst (v := -1) X dX3_blockFor_64 (by decide) ?_
        refine k_icmp_ne (tgt := 78) (xi := (fnd sm dg (mDig f p bs) nb wd (sSum f p bs) (lF la)).toInt) (yi := (-1 : Int)) X (rfl) (by decide) dX3_blockFor_65 (by decide) (fun c_65 => ?_) (fun c_65 => ?_)
        · refine k_iload X dX3_blockFor_78 0 rfl ?_
          exact k_iret (u := [(z, .inr (3, [.ref so, .ref tg, .ref g, .ref o, .int (nI rf), .int (nI lt), .int (nI ro), .int (nI al), .int (nI ir), .int (nI ia), .int la])), (g, .inr (2, [.int (nI bs), .int (nI wd), .int (nI nb), .ref qs, .ref qd, .ref qh, .ref qn])), (qs, .inl (cI, N, .inl sm)), (qd, .inl (cB, (16 * N), .inl dg)), (qh, .inl (cI, 256, .inl hd)), (qn, .inl (cI, N, .inl nx)), (o, .inr (0, [.ref aw, .ref ah])), (aw, .inl (cI, 16, .inl w3)), (ah, .inl (cI, 4, .inl h3)), (so, .inr (1, [.int (nI ms), .ref as_, .int (nI kn)])), (as_, .inl (cI, ns, .inl f))]) X hr [0, 4, 5, 6, 7, 8, 9, 1, 10, 2, 3] (by decide) rfl rfl (⟨w3, h3, rfl, by rw [if_neg (fun z => c_65 (by rw [z.2]; decide))]; rfl⟩) (by (try dsimp only); omega) (by (try dsimp only); omega) dX3_blockFor_80
        · refine k_aload_n X dX3_blockFor_68 rfl 2 rfl ?_
          refine k_dup X dX3_blockFor_69 rfl ?_
          refine k_get (v := .int (nI al)) X 0 3 7 rfl rfl (by decide) fl_X3_39 in_X3 rfl rfl dX3_blockFor_70 ?_
          refine k_iconst (v := 1) X dX3_blockFor_73 (by decide) ?_
          refine k_iadd X dX3_blockFor_74 ?_
          refine k_as (y := nI (al + 1)) (nI_1 _) ?_
          refine k_put (v := .int (nI (al + 1))) (ty := .int) (ws' := [(z, .inr (3, [.ref so, .ref tg, .ref g, .ref o, .int (nI rf), .int (nI lt), .int (nI ro), .int (nI (al + 1)), .int (nI ir), .int (nI ia), .int la])), (aw, .inl (cI, 16, .inl w3)), (so, .inr (1, [.int (nI ms), .ref as_, .int (nI kn)])), (as_, .inl (cI, ns, .inl f)), (g, .inr (2, [.int (nI bs), .int (nI wd), .int (nI nb), .ref qs, .ref qd, .ref qh, .ref qn])), (qs, .inl (cI, N, .inl sm)), (qd, .inl (cB, (16 * N), .inl dg)), (qh, .inl (cI, 256, .inl hd)), (qn, .inl (cI, N, .inl nx)), (o, .inr (0, [.ref aw, .ref ah])), (ah, .inl (cI, 4, .inl h3))]) X 0 3 7 tyX3 tyX3_ok nmX3 rfl rfl (by decide) fl_X3_39 in_X3 rfl rfl (by decide +kernel) rfl rfl (Nat.le_of_ble_eq_true rfl) rfl dX3_blockFor_75 ?_
          refine k_iload X dX3_blockFor_78 0 rfl ?_
          exact k_iret (u := [(z, .inr (3, [.ref so, .ref tg, .ref g, .ref o, .int (nI rf), .int (nI lt), .int (nI ro), .int (nI (al + 1)), .int (nI ir), .int (nI ia), .int la])), (g, .inr (2, [.int (nI bs), .int (nI wd), .int (nI nb), .ref qs, .ref qd, .ref qh, .ref qn])), (qs, .inl (cI, N, .inl sm)), (qd, .inl (cB, (16 * N), .inl dg)), (qh, .inl (cI, 256, .inl hd)), (qn, .inl (cI, N, .inl nx)), (o, .inr (0, [.ref aw, .ref ah])), (aw, .inl (cI, 16, .inl w3)), (ah, .inl (cI, 4, .inl h3)), (so, .inr (1, [.int (nI ms), .ref as_, .int (nI kn)])), (as_, .inl (cI, ns, .inl f))]) X hr [0, 4, 5, 6, 7, 8, 9, 1, 10, 2, 3] (by decide) rfl rfl (⟨w3, h3, rfl, by rw [if_pos ⟨hns0, Int32.toInt_inj.mp (c_65.trans (by decide))⟩]⟩) (by (try dsimp only); omega) (by (try dsimp only); omega) dX3_blockFor_80
      · refine k_iconst (v := -1) X dX3_blockFor_34 (by decide) ?_
        refine k_goto (tgt := 44) X dX3_blockFor_35 (by decide) ?_
        refine k_as (y := lF la) (by rw [lF, if_pos (Int32.toInt_inj.mp (c_31.trans (by decide)))]) ?_
        refine k_istore (lv' := [(4, .int (lF la)), (0, .ref z), (1, .int (nI p)), (2, .int (nI bs)), (3, .int (sSum f p bs))]) X dX3_blockFor_44 (by decide) rfl ?_
        refine k_aload_n X dX3_blockFor_46 rfl 1 rfl ?_
        refine k_get (v := .ref g) X 0 3 2 rfl rfl (by decide) fl_X3_18 in_X3 rfl rfl dX3_blockFor_47 ?_
        refine k_iload_n X dX3_blockFor_50 rfl 4 rfl ?_
        refine k_aload_n X dX3_blockFor_51 rfl 1 rfl ?_
        refine k_get (v := .ref o) X 0 3 3 rfl rfl (by decide) fl_X3_22 in_X3 rfl rfl dX3_blockFor_52 ?_
        refine k_iload X dX3_blockFor_55 0 rfl ?_
        refine k_callV (wc := [(g, .inr (2, [.int (nI bs), .int (nI wd), .int (nI nb), .ref qs, .ref qd, .ref qh, .ref qn])), (qs, .inl (cI, N, .inl sm)), (qd, .inl (cB, (16 * N), .inl dg)), (qh, .inl (cI, 256, .inl hd)), (qn, .inl (cI, N, .inl nx)), (o, .inr (0, [.ref aw, .ref ah])), (ah, .inl (cI, 4, .inl h3))]) (wr := [(z, .inr (3, [.ref so, .ref tg, .ref g, .ref o, .int (nI rf), .int (nI lt), .int (nI ro), .int (nI al), .int (nI ir), .int (nI ia), .int la])), (aw, .inl (cI, 16, .inl w3)), (so, .inr (1, [.int (nI ms), .ref as_, .int (nI kn)])), (as_, .inl (cI, ns, .inl f))]) (As := [.int (sSum f p bs), .ref o, .int (lF la)]) (n := 3) (st := []) (q0 := 0) X (c_find l D cI cB g qs qd qh qn bs wd nb N sm dg hd nx o aw ah h3 (sSum f p bs) (lF la) (hN) (hN2) (hch) (hwd)) rfl rfl ml_X3_101 im_X2_find se_X2_find ini_X2 co_X2_find (by decide +kernel) rfl ⟨Nat.le_of_ble_eq_true rfl, Nat.le_of_ble_eq_true rfl⟩ (⟨by (try dsimp only); omega, by (try dsimp only); omega⟩) (Nat.le_of_ble_eq_true rfl) [2, 3, 1, 4, 5, 6, 8] [0, 7, 9, 10] rfl rfl rfl (by decide) (by decide) (by decide) rfl dX3_blockFor_57 (fun v_57 u_57 hu_57 => ?_)
        obtain ⟨rfl, rfl⟩ := hu_57
        refine k_to (ws' := [(z, .inr (3, [.ref so, .ref tg, .ref g, .ref o, .int (nI rf), .int (nI lt), .int (nI ro), .int (nI al), .int (nI ir), .int (nI ia), .int la])), (aw, .inl (cI, 16, .inl w3)), (so, .inr (1, [.int (nI ms), .ref as_, .int (nI kn)])), (as_, .inl (cI, ns, .inl f)), (g, .inr (2, [.int (nI bs), .int (nI wd), .int (nI nb), .ref qs, .ref qd, .ref qh, .ref qn])), (qs, .inl (cI, N, .inl sm)), (qd, .inl (cB, (16 * N), .inl dg)), (qh, .inl (cI, 256, .inl hd)), (qn, .inl (cI, N, .inl nx)), (o, .inr (0, [.ref aw, .ref ah])), (ah, .inl (cI, 4, .inl h3))]) (st' := [.int (fnd sm dg h3 nb wd (sSum f p bs) (lF la))]) rfl rfl ?_
        refine k_as (y := fnd sm dg (mDig f p bs) nb wd (sSum f p bs) (lF la)) (fnd_congr hwd hh3) ?_
        refine k_istore (lv' := [(5, .int (fnd sm dg (mDig f p bs) nb wd (sSum f p bs) (lF la))), (4, .int (lF la)), (0, .ref z), (1, .int (nI p)), (2, .int (nI bs)), (3, .int (sSum f p bs))]) X dX3_blockFor_60 (by decide) rfl ?_
        refine k_iload X dX3_blockFor_62 0 rfl ?_
        refine k_iconst (v := -1) X dX3_blockFor_64 (by decide) ?_
        refine k_icmp_ne (tgt := 78) (xi := (fnd sm dg (mDig f p bs) nb wd (sSum f p bs) (lF la)).toInt) (yi := (-1 : Int)) X (rfl) (by decide) dX3_blockFor_65 (by decide) (fun c_65 => ?_) (fun c_65 => ?_)
        · refine k_iload X dX3_blockFor_78 0 rfl ?_
          exact k_iret (u := [(z, .inr (3, [.ref so, .ref tg, .ref g, .ref o, .int (nI rf), .int (nI lt), .int (nI ro), .int (nI al), .int (nI ir), .int (nI ia), .int la])), (g, .inr (2, [.int (nI bs), .int (nI wd), .int (nI nb), .ref qs, .ref qd, .ref qh, .ref qn])), (qs, .inl (cI, N, .inl sm)), (qd, .inl (cB, (16 * N), .inl dg)), (qh, .inl (cI, 256, .inl hd)), (qn, .inl (cI, N, .inl nx)), (o, .inr (0, [.ref aw, .ref ah])), (aw, .inl (cI, 16, .inl w3)), (ah, .inl (cI, 4, .inl h3)), (so, .inr (1, [.int (nI ms), .ref as_, .int (nI kn)])), (as_, .inl (cI, ns, .inl f))]) X hr [0, 4, 5, 6, 7, 8, 9, 1, 10, 2, 3] (by decide) rfl rfl (⟨w3, h3, rfl, by rw [if_neg (fun z => c_65 (by rw [z.2]; decide))]; rfl⟩) (by (try dsimp only); omega) (by (try dsimp only); omega) dX3_blockFor_80
        · refine k_aload_n X dX3_blockFor_68 rfl 2 rfl ?_
          refine k_dup X dX3_blockFor_69 rfl ?_
          refine k_get (v := .int (nI al)) X 0 3 7 rfl rfl (by decide) fl_X3_39 in_X3 rfl rfl dX3_blockFor_70 ?_
          refine k_iconst (v := 1) X dX3_blockFor_73 (by decide) ?_
          refine k_iadd X dX3_blockFor_74 ?_
          refine k_as (y := nI (al + 1)) (nI_1 _) ?_
          refine k_put (v := .int (nI (al + 1))) (ty := .int) (ws' := [(z, .inr (3, [.ref so, .ref tg, .ref g, .ref o, .int (nI rf), .int (nI lt), .int (nI ro), .int (nI (al + 1)), .int (nI ir), .int (nI ia), .int la])), (aw, .inl (cI, 16, .inl w3)), (so, .inr (1, [.int (nI ms), .ref as_, .int (nI kn)])), (as_, .inl (cI, ns, .inl f)), (g, .inr (2, [.int (nI bs), .int (nI wd), .int (nI nb), .ref qs, .ref qd, .ref qh, .ref qn])), (qs, .inl (cI, N, .inl sm)), (qd, .inl (cB, (16 * N), .inl dg)), (qh, .inl (cI, 256, .inl hd)), (qn, .inl (cI, N, .inl nx)), (o, .inr (0, [.ref aw, .ref ah])), (ah, .inl (cI, 4, .inl h3))]) X 0 3 7 tyX3 tyX3_ok nmX3 rfl rfl (by decide) fl_X3_39 in_X3 rfl rfl (by decide +kernel) rfl rfl (Nat.le_of_ble_eq_true rfl) rfl dX3_blockFor_75 ?_
          refine k_iload X dX3_blockFor_78 0 rfl ?_
          exact k_iret (u := [(z, .inr (3, [.ref so, .ref tg, .ref g, .ref o, .int (nI rf), .int (nI lt), .int (nI ro), .int (nI (al + 1)), .int (nI ir), .int (nI ia), .int la])), (g, .inr (2, [.int (nI bs), .int (nI wd), .int (nI nb), .ref qs, .ref qd, .ref qh, .ref qn])), (qs, .inl (cI, N, .inl sm)), (qd, .inl (cB, (16 * N), .inl dg)), (qh, .inl (cI, 256, .inl hd)), (qn, .inl (cI, N, .inl nx)), (o, .inr (0, [.ref aw, .ref ah])), (aw, .inl (cI, 16, .inl w3)), (ah, .inl (cI, 4, .inl h3)), (so, .inr (1, [.int (nI ms), .ref as_, .int (nI kn)])), (as_, .inl (cI, ns, .inl f))]) X hr [0, 4, 5, 6, 7, 8, 9, 1, 10, 2, 3] (by decide) rfl rfl (⟨w3, h3, rfl, by rw [if_pos ⟨hns0, Int32.toInt_inj.mp (c_65.trans (by decide))⟩]⟩) (by (try dsimp only); omega) (by (try dsimp only); omega) dX3_blockFor_80
    · exact absurd c_8 (by decide)
