theorem cN_snoc (P : Nat → Bool) {k : Nat} (hk : k ≤ 8000) : cN P (k + 1) 0 = (if cN P k 0 = -1 then (if P k = true then nI k else -1) else cN P k 0) := by
  rcases cN_cases P k 0 with ⟨e, hno⟩ | ⟨b, _, hb, hPb, hmin, e⟩
  · rw [if_pos e]
    by_cases hp : P k = true
    · rw [if_pos hp, cN_is (Nat.zero_le k) (Nat.lt_succ_self k) hp (fun a _ h => hno a (Nat.zero_le _) h)]
    · rw [if_neg hp, cN_none (fun a _ h => by
        by_cases c : a = k
        · rw [c]; exact Bool.eq_false_iff.mpr hp
        · exact hno a (Nat.zero_le _) (by omega))]
  · rw [if_neg (by rw [e]; exact m1_ne (by omega)), e, cN_is (Nat.zero_le b) (by omega) hPb (fun a h1 h2 => hmin a h1 h2)]
theorem cN_same {P : Nat → Bool} {k : Nat} (hk : k ≤ 8000) (h : P k = false) : cN P (k + 1) 0 = cN P k 0 := by
  rw [cN_snoc P hk, h]
  by_cases c : cN P k 0 = -1
  · rw [if_pos c, if_neg (by decide), c]
  · rw [if_neg c]
theorem cN_pos {P : Nat → Bool} {k : Nat} (hk : k ≤ 8000) (h : P k = true) : ¬ cN P (k + 1) 0 = -1 := by
  rw [cN_snoc P hk]
  by_cases c : cN P k 0 = -1
  · rw [if_pos c, if_pos h]; exact m1_ne hk
  · rw [if_neg c]; exact c
theorem fnd_w {sm dg h : Nat → Int32} {nb wd k : Nat} {x : Int32} (hk : k < nb) (hnb : nb ≤ 2000) (hp : pD sm dg h wd x k = true) : fnd sm dg h nb wd x (nI k) = nI k := by
  rw [fnd, if_pos (by unfold fOk; rw [nI_clamp (by omega), hp, decide_eq_true (rIn_nI hk (by omega))]; rfl)]
theorem fnd_l {sm dg h : Nat → Int32} {nb wd : Nat} {x wn : Int32} (hw : ∀ b, b < nb → nI b = wn → pD sm dg h wd x b = false) : fnd sm dg h nb wd x wn = cN (pD sm dg h wd x) nb 0 := by
  have hf : fOk sm dg h nb wd x wn = false := by
    unfold fOk
    by_cases hr : rIn wn nb
    · rw [hw wn.toNatClampNeg (i_of hr.1 hr.2).1 (i_of hr.1 hr.2).2.1.symm, Bool.and_false]
    · rw [decide_eq_false hr, Bool.false_and]
  rw [fnd, hf, if_neg (by decide)]
theorem pD_t {sm dg h : Nat → Int32} {wd : Nat} {x : Int32} {b : Nat} (h1 : sm b = x) (h2 : hB dg h wd b = true) : pD sm dg h wd x b = true := by
  unfold pD
  rw [decide_eq_true h1, h2]
  rfl
theorem pD_f {sm dg h : Nat → Int32} {wd : Nat} {x : Int32} {b : Nat} (h2 : hB dg h wd b = false) : pD sm dg h wd x b = false := by
  unfold pD
  rw [h2, Bool.and_false]

section KKL
variable {p : Program} {l : Launch} {e : Env} {R : Room} {s : State} {m : MethodId} {args : Array Value} {below : List Frame} {meth : Method} {c : Code} {nL : Nat} {D : va_G} {A : Nat → Prop} {Q : State → Prop} {cells slots pc : Nat} {ws : va_W} {lv lv' : List (Nat × Value)} {st : List Value}
theorem k_lvx (h : lv' = lv) (kk : kW p l e R s m args below meth c nL D A Q cells slots ws pc lv' st) : kW p l e R s m args below meth c nL D A Q cells slots ws pc lv st := h ▸ kk
end KKL
set_option maxHeartbeats 4000000 in
set_option maxRecDepth 100000 in
theorem m_same (l : Launch) (D : va_G) (cI cB : ClassId) (m0 : Nat) (yb : Nat) (yz : Nat) (ye : Nat) (ys : Nat) (yg : Nat) (yf : Nat) (yh : Nat) (yw : Nat) (yn : Nat) (yt : Nat) (yl : Nat) (dz : Nat) (sz : Nat) (wz : Nat) (bz : Nat) (uS : Nat) (uW : Nat) (mr : Nat) (ml : Nat) (mw : Nat) (ma : Nat) (tz : Nat) (B : Nat → Int32) (ko : Nat) (kn : Nat) (kr : Nat) (hn : kn ≤ 2000) (hr2 : kr ≤ 2000) : kC l yX5_same cX5_same 3 (some .boolean) 0 0 (0) (0) D cI cB [.ref m0] [(m0, .inr (5, [.ref yb, .ref yz, .ref ye, .int (nI dz), .int (nI sz), .int (nI wz), .int (nI bz), .int (nI uS), .int (nI uW), .ref ys, .ref yg, .int (nI mr), .int (nI ml), .int (nI mw), .int (nI ma), .ref yf, .ref yh, .ref yw, .ref yn, .ref yt, .ref yl, .int (nI tz)])), (yb, .inl (cB, 6000, .inl B)), (yz, .inl (cI, 3, .inl (zf ko kn kr)))] (fun (vV : Option Value) (uU : va_W) => ∃ (bb : Bool), vV = some (.int (b2i bb)) ∧ uU = [(m0, .inr (5, [.ref yb, .ref yz, .ref ye, .int (nI dz), .int (nI sz), .int (nI wz), .int (nI bz), .int (nI uS), .int (nI uW), .ref ys, .ref yg, .int (nI mr), .int (nI ml), .int (nI mw), .int (nI ma), .ref yf, .ref yh, .ref yw, .ref yn, .ref yt, .ref yl, .int (nI tz)])), (yb, .inl (cB, 6000, .inl B)), (yz, .inl (cI, 3, .inl (zf ko kn kr)))] ∧ (bb = true ↔ (kn = kr ∧ ∀ j, j < kn → B (2000 + j) = B (4000 + j)))) := by
  refine k_entry (lv0 := [(0, .ref m0)]) (by decide) (Nat.le_of_ble_eq_true rfl) rfl ?_
  intro zp ze zs zm zb zt zc zA X hr hin
  refine k_aload_n X dX5_same_0 rfl 0 rfl ?_
  refine k_get (v := .ref yz) X 0 5 1 rfl rfl (by decide) fl_X5_13 in_X5 rfl rfl dX5_same_1 ?_
  refine k_iconst (v := 1) X dX5_same_4 (by decide) ?_
  refine k_iald (v := (zf ko kn kr) 1) X 2 rfl (vp_in_nI (n := 1) (by omega) (by omega)) (by rw [show ((1 : Int32).toNatClampNeg) = 1 from rfl]) dX5_same_5 ?_
  refine k_as (y := nI kn) (rfl) ?_
  refine k_aload_n X dX5_same_6 rfl 0 rfl ?_
  refine k_get (v := .ref yz) X 0 5 1 rfl rfl (by decide) fl_X5_13 in_X5 rfl rfl dX5_same_7 ?_
  refine k_iconst (v := 2) X dX5_same_10 (by decide) ?_
  refine k_iald (v := (zf ko kn kr) 2) X 2 rfl (vp_in_nI (n := 2) (by omega) (by omega)) (by rw [show ((2 : Int32).toNatClampNeg) = 2 from rfl]) dX5_same_11 ?_
  refine k_as (y := nI kr) (rfl) ?_
  refine k_icmp_ne (tgt := 19) (xi := ((kn : Nat) : Int)) (yi := ((kr : Nat) : Int)) X (nI_toInt (by omega)) (nI_toInt (by omega)) dX5_same_12 (by decide) (fun c_12 => ?_) (fun c_12 => ?_)
  · refine k_iconst (v := 0) X dX5_same_19 (by decide) ?_
    refine k_istore_n (lv' := [(1, .int 0), (0, .ref m0)]) X dX5_same_20 rfl (by decide) rfl ?_
    refine k_iconst (v := 0) X dX5_same_21 (by decide) ?_
    refine k_istore_n (lv' := [(2, .int 0), (1, .int 0), (0, .ref m0)]) X dX5_same_22 rfl (by decide) rfl ?_
    refine k_lv (lv' := [(0, .ref m0), (1, .int (b2i false)), (2, .int (nI 0))]) [2, 1, 0] rfl ?_
    refine k_wide (k := 0) (n := 0) (by (try dsimp only); omega) (by (try dsimp only); omega) ?_
    refine k_loop2 (pc1 := 23) (cl := fun (k : Nat) (sb : Bool) => 0) (sl := fun (k : Nat) (sb : Bool) => 0) (wsf := fun (k : Nat) (sb : Bool) => [(m0, .inr (5, [.ref yb, .ref yz, .ref ye, .int (nI dz), .int (nI sz), .int (nI wz), .int (nI bz), .int (nI uS), .int (nI uW), .ref ys, .ref yg, .int (nI mr), .int (nI ml), .int (nI mw), .int (nI ma), .ref yf, .ref yh, .ref yw, .ref yn, .ref yt, .ref yl, .int (nI tz)])), (yb, .inl (cB, 6000, .inl B)), (yz, .inl (cI, 3, .inl (zf ko kn kr)))]) (lvf := fun (k : Nat) (sb : Bool) => [(0, .ref m0), (1, .int (b2i sb)), (2, .int (nI k))]) (stf := fun (k : Nat) (sb : Bool) => []) (I := fun (k : Nat) (sb : Bool) => k ≤ kn ∧ (sb = true ↔ (kn = kr ∧ ∀ j, j < k → B (2000 + j) = B (4000 + j)))) (mu := fun (k : Nat) (sb : Bool) => kn - k) ?_ 0 false (⟨Nat.zero_le _, ⟨fun z => absurd z (by decide), fun z => absurd z.1 (by omega)⟩⟩)
    intro k sb hI ih
    try dsimp only at hI ih
    try dsimp only
    have hi := hI.1
    refine k_iload_n X dX5_same_23 rfl 2 rfl ?_
    refine k_aload_n X dX5_same_24 rfl 0 rfl ?_
    refine k_get (v := .ref yz) X 0 5 1 rfl rfl (by decide) fl_X5_13 in_X5 rfl rfl dX5_same_25 ?_
    refine k_iconst (v := 1) X dX5_same_28 (by decide) ?_
    refine k_iald (v := (zf ko kn kr) 1) X 2 rfl (vp_in_nI (n := 1) (by omega) (by omega)) (by rw [show ((1 : Int32).toNatClampNeg) = 1 from rfl]) dX5_same_29 ?_
    refine k_as (y := nI kn) (rfl) ?_
    refine k_icmp_ge (tgt := 72) (xi := ((k : Nat) : Int)) (yi := ((kn : Nat) : Int)) X (nI_toInt (by omega)) (nI_toInt (by omega)) dX5_same_30 (by decide) (fun c_30 => ?_) (fun c_30 => ?_)
    · refine k_iload_n X dX5_same_72 rfl 1 rfl ?_
      exact k_zret (u := [(m0, .inr (5, [.ref yb, .ref yz, .ref ye, .int (nI dz), .int (nI sz), .int (nI wz), .int (nI bz), .int (nI uS), .int (nI uW), .ref ys, .ref yg, .int (nI mr), .int (nI ml), .int (nI mw), .int (nI ma), .ref yf, .ref yh, .ref yw, .ref yn, .ref yt, .ref yl, .int (nI tz)])), (yb, .inl (cB, 6000, .inl B)), (yz, .inl (cI, 3, .inl (zf ko kn kr)))]) X (by first | rfl | exact b2i_nar _ | decide) hr [0, 1, 2] (by decide) rfl rfl (⟨sb, rfl, rfl, by first | exact ⟨fun z => ⟨(hI.2.mp z).1, fun j hj => (hI.2.mp z).2 j (by omega)⟩, fun z => hI.2.mpr ⟨z.1, fun j hj => z.2 j (by omega)⟩⟩ | exact ⟨fun z => absurd z hsb, fun z => absurd (hI.2.mpr ⟨z.1, fun j hj => z.2 j (by omega)⟩) hsb⟩⟩) (by (try dsimp only); omega) (by (try dsimp only); omega) dX5_same_73
    · refine k_iload_n X dX5_same_33 rfl 1 rfl ?_
      by_cases hsb : sb = true
      · refine k_as (y := 1) (by rw [hsb]; rfl) ?_
        refine k_if_eq (tgt := 72) (xi := (1 : Int)) X (by decide) dX5_same_34 (by decide) (fun c_34 => ?_) (fun c_34 => ?_)
        · exact absurd c_34 (by decide)
        · refine k_aload_n X dX5_same_37 rfl 0 rfl ?_
          refine k_get (v := .ref yb) X 0 5 0 rfl rfl (by decide) fl_X5_7 in_X5 rfl rfl dX5_same_38 ?_
          refine k_sipush (v := 2000) X dX5_same_41 (by decide) ?_
          refine k_iload_n X dX5_same_44 rfl 2 rfl ?_
          refine k_iadd X dX5_same_45 ?_
          refine k_as (y := nI (2000 + k)) (nI_add 2000 k) ?_
          refine k_bald (v := B (2000 + k)) X 1 rfl (vp_in_nI (n := 2000 + k) (by omega) (by omega)) (by rw [nI_clamp (n := 2000 + k) (by omega)]) dX5_same_46 ?_
          refine k_aload_n X dX5_same_47 rfl 0 rfl ?_
          refine k_get (v := .ref yb) X 0 5 0 rfl rfl (by decide) fl_X5_7 in_X5 rfl rfl dX5_same_48 ?_
          refine k_sipush (v := 4000) X dX5_same_51 (by decide) ?_
          refine k_iload_n X dX5_same_54 rfl 2 rfl ?_
          refine k_iadd X dX5_same_55 ?_
          refine k_as (y := nI (4000 + k)) (nI_add 4000 k) ?_
          refine k_bald (v := B (4000 + k)) X 1 rfl (vp_in_nI (n := 4000 + k) (by omega) (by omega)) (by rw [nI_clamp (n := 4000 + k) (by omega)]) dX5_same_56 ?_
          refine k_icmp_ne (tgt := 64) (xi := (B (2000 + k)).toInt) (yi := (B (4000 + k)).toInt) X (rfl) (rfl) dX5_same_57 (by decide) (fun c_57 => ?_) (fun c_57 => ?_)
          · refine k_iconst (v := 0) X dX5_same_64 (by decide) ?_
            refine k_istore_n (lv' := [(1, .int 0), (0, .ref m0), (2, .int (nI k))]) X dX5_same_65 rfl (by decide) rfl ?_
            refine k_iinc (v := nI (k + 1)) (lv' := [(2, .int (nI (k + 1))), (1, .int 0), (0, .ref m0)]) X dX5_same_66 2 rfl (nI_1 _) (by decide) rfl ?_
            refine k_goto (tgt := 23) X dX5_same_69 (by decide) ?_
            refine k_lv (lv' := [(0, .ref m0), (1, .int (b2i false)), (2, .int (nI (k + 1)))]) [2, 1, 0] rfl ?_
            refine k_sub (ws' := [(m0, .inr (5, [.ref yb, .ref yz, .ref ye, .int (nI dz), .int (nI sz), .int (nI wz), .int (nI bz), .int (nI uS), .int (nI uW), .ref ys, .ref yg, .int (nI mr), .int (nI ml), .int (nI mw), .int (nI ma), .ref yf, .ref yh, .ref yw, .ref yn, .ref yt, .ref yl, .int (nI tz)])), (yb, .inl (cB, 6000, .inl B)), (yz, .inl (cI, 3, .inl (zf ko kn kr)))]) [0, 1, 2] (by decide) rfl rfl ?_
            refine k_wide (k := 0) (n := 0) (by (try dsimp only); omega) (by (try dsimp only); omega) ?_
            exact ih (k + 1) false (⟨by omega, ⟨fun z => absurd z (by decide), fun z => absurd (congrArg Int32.toInt (z.2 k (by omega))) c_57⟩⟩) (by omega)
          · refine k_iconst (v := 1) X dX5_same_60 (by decide) ?_
            refine k_goto (tgt := 65) X dX5_same_61 (by decide) ?_
            refine k_istore_n (lv' := [(1, .int 1), (0, .ref m0), (2, .int (nI k))]) X dX5_same_65 rfl (by decide) rfl ?_
            refine k_iinc (v := nI (k + 1)) (lv' := [(2, .int (nI (k + 1))), (1, .int 1), (0, .ref m0)]) X dX5_same_66 2 rfl (nI_1 _) (by decide) rfl ?_
            refine k_goto (tgt := 23) X dX5_same_69 (by decide) ?_
            refine k_lv (lv' := [(0, .ref m0), (1, .int (b2i true)), (2, .int (nI (k + 1)))]) [2, 1, 0] rfl ?_
            refine k_sub (ws' := [(m0, .inr (5, [.ref yb, .ref yz, .ref ye, .int (nI dz), .int (nI sz), .int (nI wz), .int (nI bz), .int (nI uS), .int (nI uW), .ref ys, .ref yg, .int (nI mr), .int (nI ml), .int (nI mw), .int (nI ma), .ref yf, .ref yh, .ref yw, .ref yn, .ref yt, .ref yl, .int (nI tz)])), (yb, .inl (cB, 6000, .inl B)), (yz, .inl (cI, 3, .inl (zf ko kn kr)))]) [0, 1, 2] (by decide) rfl rfl ?_
            refine k_wide (k := 0) (n := 0) (by (try dsimp only); omega) (by (try dsimp only); omega) ?_
            exact ih (k + 1) true (⟨by omega, ⟨fun _ => ⟨(hI.2.mp hsb).1, lt_s (hI.2.mp hsb).2 (Int32.toInt_inj.mp c_57)⟩, fun _ => rfl⟩⟩) (by omega)
      · refine k_as (y := 0) (by rw [Bool.eq_false_iff.mpr hsb]; rfl) ?_
        refine k_if_eq (tgt := 72) (xi := (0 : Int)) X (by decide) dX5_same_34 (by decide) (fun c_34 => ?_) (fun c_34 => ?_)
        · refine k_iload_n X dX5_same_72 rfl 1 rfl ?_
          exact k_zret (u := [(m0, .inr (5, [.ref yb, .ref yz, .ref ye, .int (nI dz), .int (nI sz), .int (nI wz), .int (nI bz), .int (nI uS), .int (nI uW), .ref ys, .ref yg, .int (nI mr), .int (nI ml), .int (nI mw), .int (nI ma), .ref yf, .ref yh, .ref yw, .ref yn, .ref yt, .ref yl, .int (nI tz)])), (yb, .inl (cB, 6000, .inl B)), (yz, .inl (cI, 3, .inl (zf ko kn kr)))]) X (by first | rfl | exact b2i_nar _ | decide) hr [0, 1, 2] (by decide) rfl rfl (⟨sb, rfl, rfl, by first | exact ⟨fun z => ⟨(hI.2.mp z).1, fun j hj => (hI.2.mp z).2 j (by omega)⟩, fun z => hI.2.mpr ⟨z.1, fun j hj => z.2 j (by omega)⟩⟩ | exact ⟨fun z => absurd z hsb, fun z => absurd (hI.2.mpr ⟨z.1, fun j hj => z.2 j (by omega)⟩) hsb⟩⟩) (by (try dsimp only); omega) (by (try dsimp only); omega) dX5_same_73
        · exact absurd c_34 (by decide)
  · refine k_iconst (v := 1) X dX5_same_15 (by decide) ?_
    refine k_goto (tgt := 20) X dX5_same_16 (by decide) ?_
    refine k_istore_n (lv' := [(1, .int 1), (0, .ref m0)]) X dX5_same_20 rfl (by decide) rfl ?_
    refine k_iconst (v := 0) X dX5_same_21 (by decide) ?_
    refine k_istore_n (lv' := [(2, .int 0), (1, .int 1), (0, .ref m0)]) X dX5_same_22 rfl (by decide) rfl ?_
    refine k_lv (lv' := [(0, .ref m0), (1, .int (b2i true)), (2, .int (nI 0))]) [2, 1, 0] rfl ?_
    refine k_wide (k := 0) (n := 0) (by (try dsimp only); omega) (by (try dsimp only); omega) ?_
    refine k_loop2 (pc1 := 23) (cl := fun (k : Nat) (sb : Bool) => 0) (sl := fun (k : Nat) (sb : Bool) => 0) (wsf := fun (k : Nat) (sb : Bool) => [(m0, .inr (5, [.ref yb, .ref yz, .ref ye, .int (nI dz), .int (nI sz), .int (nI wz), .int (nI bz), .int (nI uS), .int (nI uW), .ref ys, .ref yg, .int (nI mr), .int (nI ml), .int (nI mw), .int (nI ma), .ref yf, .ref yh, .ref yw, .ref yn, .ref yt, .ref yl, .int (nI tz)])), (yb, .inl (cB, 6000, .inl B)), (yz, .inl (cI, 3, .inl (zf ko kn kr)))]) (lvf := fun (k : Nat) (sb : Bool) => [(0, .ref m0), (1, .int (b2i sb)), (2, .int (nI k))]) (stf := fun (k : Nat) (sb : Bool) => []) (I := fun (k : Nat) (sb : Bool) => k ≤ kn ∧ (sb = true ↔ (kn = kr ∧ ∀ j, j < k → B (2000 + j) = B (4000 + j)))) (mu := fun (k : Nat) (sb : Bool) => kn - k) ?_ 0 true (⟨Nat.zero_le _, ⟨fun _ => ⟨by omega, fun j h => absurd h (Nat.not_lt_zero j)⟩, fun _ => rfl⟩⟩)
    intro k sb hI ih
    try dsimp only at hI ih
    try dsimp only
    have hi := hI.1
    refine k_iload_n X dX5_same_23 rfl 2 rfl ?_
    refine k_aload_n X dX5_same_24 rfl 0 rfl ?_
    refine k_get (v := .ref yz) X 0 5 1 rfl rfl (by decide) fl_X5_13 in_X5 rfl rfl dX5_same_25 ?_
    refine k_iconst (v := 1) X dX5_same_28 (by decide) ?_
    refine k_iald (v := (zf ko kn kr) 1) X 2 rfl (vp_in_nI (n := 1) (by omega) (by omega)) (by rw [show ((1 : Int32).toNatClampNeg) = 1 from rfl]) dX5_same_29 ?_
    refine k_as (y := nI kn) (rfl) ?_
    refine k_icmp_ge (tgt := 72) (xi := ((k : Nat) : Int)) (yi := ((kn : Nat) : Int)) X (nI_toInt (by omega)) (nI_toInt (by omega)) dX5_same_30 (by decide) (fun c_30 => ?_) (fun c_30 => ?_)
    · refine k_iload_n X dX5_same_72 rfl 1 rfl ?_
      exact k_zret (u := [(m0, .inr (5, [.ref yb, .ref yz, .ref ye, .int (nI dz), .int (nI sz), .int (nI wz), .int (nI bz), .int (nI uS), .int (nI uW), .ref ys, .ref yg, .int (nI mr), .int (nI ml), .int (nI mw), .int (nI ma), .ref yf, .ref yh, .ref yw, .ref yn, .ref yt, .ref yl, .int (nI tz)])), (yb, .inl (cB, 6000, .inl B)), (yz, .inl (cI, 3, .inl (zf ko kn kr)))]) X (by first | rfl | exact b2i_nar _ | decide) hr [0, 1, 2] (by decide) rfl rfl (⟨sb, rfl, rfl, by first | exact ⟨fun z => ⟨(hI.2.mp z).1, fun j hj => (hI.2.mp z).2 j (by omega)⟩, fun z => hI.2.mpr ⟨z.1, fun j hj => z.2 j (by omega)⟩⟩ | exact ⟨fun z => absurd z hsb, fun z => absurd (hI.2.mpr ⟨z.1, fun j hj => z.2 j (by omega)⟩) hsb⟩⟩) (by (try dsimp only); omega) (by (try dsimp only); omega) dX5_same_73
    · refine k_iload_n X dX5_same_33 rfl 1 rfl ?_
      by_cases hsb : sb = true
      · refine k_as (y := 1) (by rw [hsb]; rfl) ?_
        refine k_if_eq (tgt := 72) (xi := (1 : Int)) X (by decide) dX5_same_34 (by decide) (fun c_34 => ?_) (fun c_34 => ?_)
        · exact absurd c_34 (by decide)
        · refine k_aload_n X dX5_same_37 rfl 0 rfl ?_
          refine k_get (v := .ref yb) X 0 5 0 rfl rfl (by decide) fl_X5_7 in_X5 rfl rfl dX5_same_38 ?_
          refine k_sipush (v := 2000) X dX5_same_41 (by decide) ?_
          refine k_iload_n X dX5_same_44 rfl 2 rfl ?_
          refine k_iadd X dX5_same_45 ?_
          refine k_as (y := nI (2000 + k)) (nI_add 2000 k) ?_
          refine k_bald (v := B (2000 + k)) X 1 rfl (vp_in_nI (n := 2000 + k) (by omega) (by omega)) (by rw [nI_clamp (n := 2000 + k) (by omega)]) dX5_same_46 ?_
          refine k_aload_n X dX5_same_47 rfl 0 rfl ?_
          refine k_get (v := .ref yb) X 0 5 0 rfl rfl (by decide) fl_X5_7 in_X5 rfl rfl dX5_same_48 ?_
          refine k_sipush (v := 4000) X dX5_same_51 (by decide) ?_
          refine k_iload_n X dX5_same_54 rfl 2 rfl ?_
          refine k_iadd X dX5_same_55 ?_
          refine k_as (y := nI (4000 + k)) (nI_add 4000 k) ?_
          refine k_bald (v := B (4000 + k)) X 1 rfl (vp_in_nI (n := 4000 + k) (by omega) (by omega)) (by rw [nI_clamp (n := 4000 + k) (by omega)]) dX5_same_56 ?_
          refine k_icmp_ne (tgt := 64) (xi := (B (2000 + k)).toInt) (yi := (B (4000 + k)).toInt) X (rfl) (rfl) dX5_same_57 (by decide) (fun c_57 => ?_) (fun c_57 => ?_)
          · refine k_iconst (v := 0) X dX5_same_64 (by decide) ?_
            refine k_istore_n (lv' := [(1, .int 0), (0, .ref m0), (2, .int (nI k))]) X dX5_same_65 rfl (by decide) rfl ?_
            refine k_iinc (v := nI (k + 1)) (lv' := [(2, .int (nI (k + 1))), (1, .int 0), (0, .ref m0)]) X dX5_same_66 2 rfl (nI_1 _) (by decide) rfl ?_
            refine k_goto (tgt := 23) X dX5_same_69 (by decide) ?_
            refine k_lv (lv' := [(0, .ref m0), (1, .int (b2i false)), (2, .int (nI (k + 1)))]) [2, 1, 0] rfl ?_
            refine k_sub (ws' := [(m0, .inr (5, [.ref yb, .ref yz, .ref ye, .int (nI dz), .int (nI sz), .int (nI wz), .int (nI bz), .int (nI uS), .int (nI uW), .ref ys, .ref yg, .int (nI mr), .int (nI ml), .int (nI mw), .int (nI ma), .ref yf, .ref yh, .ref yw, .ref yn, .ref yt, .ref yl, .int (nI tz)])), (yb, .inl (cB, 6000, .inl B)), (yz, .inl (cI, 3, .inl (zf ko kn kr)))]) [0, 1, 2] (by decide) rfl rfl ?_
            refine k_wide (k := 0) (n := 0) (by (try dsimp only); omega) (by (try dsimp only); omega) ?_
            exact ih (k + 1) false (⟨by omega, ⟨fun z => absurd z (by decide), fun z => absurd (congrArg Int32.toInt (z.2 k (by omega))) c_57⟩⟩) (by omega)
          · refine k_iconst (v := 1) X dX5_same_60 (by decide) ?_
            refine k_goto (tgt := 65) X dX5_same_61 (by decide) ?_
            refine k_istore_n (lv' := [(1, .int 1), (0, .ref m0), (2, .int (nI k))]) X dX5_same_65 rfl (by decide) rfl ?_
            refine k_iinc (v := nI (k + 1)) (lv' := [(2, .int (nI (k + 1))), (1, .int 1), (0, .ref m0)]) X dX5_same_66 2 rfl (nI_1 _) (by decide) rfl ?_
            refine k_goto (tgt := 23) X dX5_same_69 (by decide) ?_
            refine k_lv (lv' := [(0, .ref m0), (1, .int (b2i true)), (2, .int (nI (k + 1)))]) [2, 1, 0] rfl ?_
            refine k_sub (ws' := [(m0, .inr (5, [.ref yb, .ref yz, .ref ye, .int (nI dz), .int (nI sz), .int (nI wz), .int (nI bz), .int (nI uS), .int (nI uW), .ref ys, .ref yg, .int (nI mr), .int (nI ml), .int (nI mw), .int (nI ma), .ref yf, .ref yh, .ref yw, .ref yn, .ref yt, .ref yl, .int (nI tz)])), (yb, .inl (cB, 6000, .inl B)), (yz, .inl (cI, 3, .inl (zf ko kn kr)))]) [0, 1, 2] (by decide) rfl rfl ?_
            refine k_wide (k := 0) (n := 0) (by (try dsimp only); omega) (by (try dsimp only); omega) ?_
            exact ih (k + 1) true (⟨by omega, ⟨fun _ => ⟨(hI.2.mp hsb).1, lt_s (hI.2.mp hsb).2 (Int32.toInt_inj.mp c_57)⟩, fun _ => rfl⟩⟩) (by omega)
      · refine k_as (y := 0) (by rw [Bool.eq_false_iff.mpr hsb]; rfl) ?_
        refine k_if_eq (tgt := 72) (xi := (0 : Int)) X (by decide) dX5_same_34 (by decide) (fun c_34 => ?_) (fun c_34 => ?_)
        · refine k_iload_n X dX5_same_72 rfl 1 rfl ?_
          exact k_zret (u := [(m0, .inr (5, [.ref yb, .ref yz, .ref ye, .int (nI dz), .int (nI sz), .int (nI wz), .int (nI bz), .int (nI uS), .int (nI uW), .ref ys, .ref yg, .int (nI mr), .int (nI ml), .int (nI mw), .int (nI ma), .ref yf, .ref yh, .ref yw, .ref yn, .ref yt, .ref yl, .int (nI tz)])), (yb, .inl (cB, 6000, .inl B)), (yz, .inl (cI, 3, .inl (zf ko kn kr)))]) X (by first | rfl | exact b2i_nar _ | decide) hr [0, 1, 2] (by decide) rfl rfl (⟨sb, rfl, rfl, by first | exact ⟨fun z => ⟨(hI.2.mp z).1, fun j hj => (hI.2.mp z).2 j (by omega)⟩, fun z => hI.2.mpr ⟨z.1, fun j hj => z.2 j (by omega)⟩⟩ | exact ⟨fun z => absurd z hsb, fun z => absurd (hI.2.mpr ⟨z.1, fun j hj => z.2 j (by omega)⟩) hsb⟩⟩) (by (try dsimp only); omega) (by (try dsimp only); omega) dX5_same_73
        · exact absurd c_34 (by decide)
set_option maxHeartbeats 4000000 in
set_option maxRecDepth 100000 in
theorem m_isDigest (l : Launch) (D : va_G) (cI cB : ClassId) (m0 : Nat) (yb : Nat) (yz : Nat) (ye : Nat) (ys : Nat) (yg : Nat) (yf : Nat) (yh : Nat) (yw : Nat) (yn : Nat) (yt : Nat) (yl : Nat) (dz : Nat) (sz : Nat) (wz : Nat) (bz : Nat) (uS : Nat) (uW : Nat) (mr : Nat) (ml : Nat) (mw : Nat) (ma : Nat) (tz : Nat) (G : Nat → Int32) (H : Nat → Int32) (b : Nat) (hb : b < 2000) (hw : uW ≤ 16) : kC l yX5_isDigest cX5_isDigest 4 (some .boolean) 1 21 (0) (0) D cI cB [.ref m0, .int (nI b)] [(m0, .inr (5, [.ref yb, .ref yz, .ref ye, .int (nI dz), .int (nI sz), .int (nI wz), .int (nI bz), .int (nI uS), .int (nI uW), .ref ys, .ref yg, .int (nI mr), .int (nI ml), .int (nI mw), .int (nI ma), .ref yf, .ref yh, .ref yw, .ref yn, .ref yt, .ref yl, .int (nI tz)])), (yg, .inl (cB, 32000, .inl G)), (yh, .inl (cI, 4, .inl H))] (fun (vV : Option Value) (uU : va_W) => vV = some (.int (b2i (hB G H uW b))) ∧ uU = [(m0, .inr (5, [.ref yb, .ref yz, .ref ye, .int (nI dz), .int (nI sz), .int (nI wz), .int (nI bz), .int (nI uS), .int (nI uW), .ref ys, .ref yg, .int (nI mr), .int (nI ml), .int (nI mw), .int (nI ma), .ref yf, .ref yh, .ref yw, .ref yn, .ref yt, .ref yl, .int (nI tz)])), (yg, .inl (cB, 32000, .inl G)), (yh, .inl (cI, 4, .inl H))]) := by
  refine k_entry (lv0 := [(0, .ref m0), (1, .int (nI b))]) (by decide) (Nat.le_of_ble_eq_true rfl) rfl ?_
  intro zp ze zs zm zb zt zc zA X hr hin
  refine k_iconst (v := 1) X dX5_isDigest_0 (by decide) ?_
  refine k_istore_n (lv' := [(2, .int 1), (0, .ref m0), (1, .int (nI b))]) X dX5_isDigest_1 rfl (by decide) rfl ?_
  refine k_iconst (v := 0) X dX5_isDigest_2 (by decide) ?_
  refine k_istore_n (lv' := [(3, .int 0), (2, .int 1), (0, .ref m0), (1, .int (nI b))]) X dX5_isDigest_3 rfl (by decide) rfl ?_
  refine k_lv (lv' := [(0, .ref m0), (1, .int (nI b)), (2, .int (b2i true)), (3, .int (nI 0))]) [2, 3, 1, 0] rfl ?_
  refine k_wide (k := 0) (n := 0) (by (try dsimp only); omega) (by (try dsimp only); omega) ?_
  refine k_loop2 (pc1 := 4) (cl := fun (k : Nat) (sb : Bool) => 0) (sl := fun (k : Nat) (sb : Bool) => 0) (wsf := fun (k : Nat) (sb : Bool) => [(m0, .inr (5, [.ref yb, .ref yz, .ref ye, .int (nI dz), .int (nI sz), .int (nI wz), .int (nI bz), .int (nI uS), .int (nI uW), .ref ys, .ref yg, .int (nI mr), .int (nI ml), .int (nI mw), .int (nI ma), .ref yf, .ref yh, .ref yw, .ref yn, .ref yt, .ref yl, .int (nI tz)])), (yg, .inl (cB, 32000, .inl G)), (yh, .inl (cI, 4, .inl H))]) (lvf := fun (k : Nat) (sb : Bool) => [(0, .ref m0), (1, .int (nI b)), (2, .int (b2i sb)), (3, .int (nI k))]) (stf := fun (k : Nat) (sb : Bool) => []) (I := fun (k : Nat) (sb : Bool) => k ≤ uW ∧ (sb = true ↔ ∀ j, j < k → (G (16 * b + j) &&& 255) = dByte H j)) (mu := fun (k : Nat) (sb : Bool) => uW - k) ?_ 0 true (⟨Nat.zero_le _, ⟨fun _ j h => absurd h (Nat.not_lt_zero j), fun _ => rfl⟩⟩)
  intro k sb hI ih
  try dsimp only at hI ih
  try dsimp only
  have hi := hI.1
  refine k_iload_n X dX5_isDigest_4 rfl 3 rfl ?_
  refine k_aload_n X dX5_isDigest_5 rfl 0 rfl ?_
  refine k_get (v := .int (nI uW)) X 0 5 8 rfl rfl (by decide) fl_X5_30 in_X5 rfl rfl dX5_isDigest_6 ?_
  refine k_icmp_ge (tgt := 51) (xi := ((k : Nat) : Int)) (yi := ((uW : Nat) : Int)) X (nI_toInt (by omega)) (nI_toInt (by omega)) dX5_isDigest_9 (by decide) (fun c_9 => ?_) (fun c_9 => ?_)
  · refine k_iload_n X dX5_isDigest_51 rfl 2 rfl ?_
    exact k_zret (u := [(m0, .inr (5, [.ref yb, .ref yz, .ref ye, .int (nI dz), .int (nI sz), .int (nI wz), .int (nI bz), .int (nI uS), .int (nI uW), .ref ys, .ref yg, .int (nI mr), .int (nI ml), .int (nI mw), .int (nI ma), .ref yf, .ref yh, .ref yw, .ref yn, .ref yt, .ref yl, .int (nI tz)])), (yg, .inl (cB, 32000, .inl G)), (yh, .inl (cI, 4, .inl H))]) X (by first | rfl | exact b2i_nar _ | decide) hr [0, 1, 2] (by decide) rfl rfl (⟨by rw [show hB G H uW b = sb from Bool.eq_iff_iff.mpr ⟨fun z => hI.2.mpr (fun j hj => hB_iff.mp z j (by omega)), fun z => hB_iff.mpr (fun j hj => hI.2.mp z j (by omega))⟩], rfl⟩) (by (try dsimp only); omega) (by (try dsimp only); omega) dX5_isDigest_52
  · refine k_iload_n X dX5_isDigest_12 rfl 2 rfl ?_
    by_cases hsb : sb = true
    · refine k_as (y := 1) (by rw [hsb]; rfl) ?_
      refine k_if_eq (tgt := 43) (xi := (1 : Int)) X (by decide) dX5_isDigest_13 (by decide) (fun c_13 => ?_) (fun c_13 => ?_)
      · exact absurd c_13 (by decide)
      · refine k_aload_n X dX5_isDigest_16 rfl 0 rfl ?_
        refine k_get (v := .ref yg) X 0 5 10 rfl rfl (by decide) fl_X5_36 in_X5 rfl rfl dX5_isDigest_17 ?_
        refine k_bipush (v := 16) X dX5_isDigest_20 (by decide) ?_
        refine k_iload_n X dX5_isDigest_22 rfl 1 rfl ?_
        refine k_imul X dX5_isDigest_23 ?_
        refine k_as (y := nI (16 * b)) (n_mul 16 b) ?_
        refine k_iload_n X dX5_isDigest_24 rfl 3 rfl ?_
        refine k_iadd X dX5_isDigest_25 ?_
        refine k_as (y := nI (16 * b + k)) (nI_add _ _) ?_
        refine k_bald (v := G (16 * b + k)) X 1 rfl (vp_in_nI (n := 16 * b + k) (by omega) (by omega)) (by rw [nI_clamp (n := 16 * b + k) (by omega)]) dX5_isDigest_26 ?_
        refine k_sipush (v := 255) X dX5_isDigest_27 (by decide) ?_
        refine k_iand X dX5_isDigest_30 ?_
        refine k_aload_n X dX5_isDigest_31 rfl 0 rfl ?_
        refine k_iload_n X dX5_isDigest_32 rfl 3 rfl ?_
        refine k_callV (wc := [(m0, .inr (5, [.ref yb, .ref yz, .ref ye, .int (nI dz), .int (nI sz), .int (nI wz), .int (nI bz), .int (nI uS), .int (nI uW), .ref ys, .ref yg, .int (nI mr), .int (nI ml), .int (nI mw), .int (nI ma), .ref yf, .ref yh, .ref yw, .ref yn, .ref yt, .ref yl, .int (nI tz)])), (yh, .inl (cI, 4, .inl H))]) (wr := [(yg, .inl (cB, 32000, .inl G))]) (As := [.int (nI k)]) (n := 1) (st := [.int ((G (16 * b + k)) &&& 255)]) (q0 := 0) X (m_digestByte l D cI cB m0 yb yz ye ys yg yf yh yw yn yt yl dz sz wz bz uS uW mr ml mw ma tz H k (by omega)) rfl rfl ml_X5_147 im_X5_digestByte se_X5_digestByte ini_X5 co_X5_digestByte (by decide +kernel) rfl ⟨Nat.le_of_ble_eq_true rfl, Nat.le_of_ble_eq_true rfl⟩ (⟨by (try dsimp only); omega, by (try dsimp only); omega⟩) (Nat.le_of_ble_eq_true rfl) [0, 2] [1] rfl rfl rfl (by decide) (by decide) (by decide) rfl dX5_isDigest_33 (fun v_33 u_33 hu_33 => ?_)
        obtain ⟨rfl, rfl⟩ := hu_33
        refine k_to (ws' := [(yg, .inl (cB, 32000, .inl G)), (m0, .inr (5, [.ref yb, .ref yz, .ref ye, .int (nI dz), .int (nI sz), .int (nI wz), .int (nI bz), .int (nI uS), .int (nI uW), .ref ys, .ref yg, .int (nI mr), .int (nI ml), .int (nI mw), .int (nI ma), .ref yf, .ref yh, .ref yw, .ref yn, .ref yt, .ref yl, .int (nI tz)])), (yh, .inl (cI, 4, .inl H))]) (st' := [.int (dByte H k), .int ((G (16 * b + k)) &&& 255)]) rfl rfl ?_
        refine k_icmp_ne (tgt := 43) (xi := ((G (16 * b + k)) &&& 255).toInt) (yi := (dByte H k).toInt) X (rfl) (rfl) dX5_isDigest_36 (by decide) (fun c_36 => ?_) (fun c_36 => ?_)
        · refine k_iconst (v := 0) X dX5_isDigest_43 (by decide) ?_
          refine k_istore_n (lv' := [(2, .int 0), (0, .ref m0), (1, .int (nI b)), (3, .int (nI k))]) X dX5_isDigest_44 rfl (by decide) rfl ?_
          refine k_iinc (v := nI (k + 1)) (lv' := [(3, .int (nI (k + 1))), (2, .int 0), (0, .ref m0), (1, .int (nI b))]) X dX5_isDigest_45 3 rfl (nI_1 _) (by decide) rfl ?_
          refine k_goto (tgt := 4) X dX5_isDigest_48 (by decide) ?_
          refine k_lv (lv' := [(0, .ref m0), (1, .int (nI b)), (2, .int (b2i false)), (3, .int (nI (k + 1)))]) [2, 3, 1, 0] rfl ?_
          refine k_sub (ws' := [(m0, .inr (5, [.ref yb, .ref yz, .ref ye, .int (nI dz), .int (nI sz), .int (nI wz), .int (nI bz), .int (nI uS), .int (nI uW), .ref ys, .ref yg, .int (nI mr), .int (nI ml), .int (nI mw), .int (nI ma), .ref yf, .ref yh, .ref yw, .ref yn, .ref yt, .ref yl, .int (nI tz)])), (yg, .inl (cB, 32000, .inl G)), (yh, .inl (cI, 4, .inl H))]) [1, 0, 2] (by decide) rfl rfl ?_
          refine k_wide (k := 0) (n := 0) (by (try dsimp only); omega) (by (try dsimp only); omega) ?_
          exact ih (k + 1) false (⟨by omega, ⟨fun z => absurd z (by decide), fun z => absurd (congrArg Int32.toInt (z k (by omega))) c_36⟩⟩) (by omega)
        · refine k_iconst (v := 1) X dX5_isDigest_39 (by decide) ?_
          refine k_goto (tgt := 44) X dX5_isDigest_40 (by decide) ?_
          refine k_istore_n (lv' := [(2, .int 1), (0, .ref m0), (1, .int (nI b)), (3, .int (nI k))]) X dX5_isDigest_44 rfl (by decide) rfl ?_
          refine k_iinc (v := nI (k + 1)) (lv' := [(3, .int (nI (k + 1))), (2, .int 1), (0, .ref m0), (1, .int (nI b))]) X dX5_isDigest_45 3 rfl (nI_1 _) (by decide) rfl ?_
          refine k_goto (tgt := 4) X dX5_isDigest_48 (by decide) ?_
          refine k_lv (lv' := [(0, .ref m0), (1, .int (nI b)), (2, .int (b2i true)), (3, .int (nI (k + 1)))]) [2, 3, 1, 0] rfl ?_
          refine k_sub (ws' := [(m0, .inr (5, [.ref yb, .ref yz, .ref ye, .int (nI dz), .int (nI sz), .int (nI wz), .int (nI bz), .int (nI uS), .int (nI uW), .ref ys, .ref yg, .int (nI mr), .int (nI ml), .int (nI mw), .int (nI ma), .ref yf, .ref yh, .ref yw, .ref yn, .ref yt, .ref yl, .int (nI tz)])), (yg, .inl (cB, 32000, .inl G)), (yh, .inl (cI, 4, .inl H))]) [1, 0, 2] (by decide) rfl rfl ?_
          refine k_wide (k := 0) (n := 0) (by (try dsimp only); omega) (by (try dsimp only); omega) ?_
          exact ih (k + 1) true (⟨by omega, ⟨fun _ => lt_s (hI.2.mp hsb) (Int32.toInt_inj.mp c_36), fun _ => rfl⟩⟩) (by omega)
    · refine k_as (y := 0) (by rw [Bool.eq_false_iff.mpr hsb]; rfl) ?_
      refine k_if_eq (tgt := 43) (xi := (0 : Int)) X (by decide) dX5_isDigest_13 (by decide) (fun c_13 => ?_) (fun c_13 => ?_)
      · refine k_iconst (v := 0) X dX5_isDigest_43 (by decide) ?_
        refine k_istore_n (lv' := [(2, .int 0), (0, .ref m0), (1, .int (nI b)), (3, .int (nI k))]) X dX5_isDigest_44 rfl (by decide) rfl ?_
        refine k_iinc (v := nI (k + 1)) (lv' := [(3, .int (nI (k + 1))), (2, .int 0), (0, .ref m0), (1, .int (nI b))]) X dX5_isDigest_45 3 rfl (nI_1 _) (by decide) rfl ?_
        refine k_goto (tgt := 4) X dX5_isDigest_48 (by decide) ?_
        refine k_lv (lv' := [(0, .ref m0), (1, .int (nI b)), (2, .int (b2i false)), (3, .int (nI (k + 1)))]) [2, 3, 1, 0] rfl ?_
        refine k_sub (ws' := [(m0, .inr (5, [.ref yb, .ref yz, .ref ye, .int (nI dz), .int (nI sz), .int (nI wz), .int (nI bz), .int (nI uS), .int (nI uW), .ref ys, .ref yg, .int (nI mr), .int (nI ml), .int (nI mw), .int (nI ma), .ref yf, .ref yh, .ref yw, .ref yn, .ref yt, .ref yl, .int (nI tz)])), (yg, .inl (cB, 32000, .inl G)), (yh, .inl (cI, 4, .inl H))]) [0, 1, 2] (by decide) rfl rfl ?_
        refine k_wide (k := 0) (n := 0) (by (try dsimp only); omega) (by (try dsimp only); omega) ?_
        exact ih (k + 1) false (⟨by omega, ⟨fun z => absurd z (by decide), fun z => absurd (hI.2.mpr (fun j hj => z j (by omega))) hsb⟩⟩) (by omega)
      · exact absurd c_13 (by decide)
set_option maxHeartbeats 4000000 in
set_option maxRecDepth 100000 in
theorem m_sign (l : Launch) (D : va_G) (cI cB : ClassId) (m0 : Nat) (yb : Nat) (yz : Nat) (ye : Nat) (ys : Nat) (yg : Nat) (yf : Nat) (yh : Nat) (yw : Nat) (yn : Nat) (yt : Nat) (yl : Nat) (dz : Nat) (sz : Nat) (wz : Nat) (bz : Nat) (uS : Nat) (uW : Nat) (mr : Nat) (ml : Nat) (mw : Nat) (ma : Nat) (tz : Nat) (B : Nat → Int32) (S : Nat → Int32) (G : Nat → Int32) (F : Nat → Int32) (V : Nat → Int32) (H : Nat → Int32) (KN : Nat → Int32) (KT : Nat → Int32) (f : Nat → Int32) (ko : Nat) (kn : Nat) (kr : Nat) (hk : ko ≤ 2000) (hs1 : 1 ≤ sz) (hs2 : sz ≤ 256) (hB : ∀ j, j < ko → (B j &&& 255) = f j) (hKN : ∀ j, j < 64 → KN j = kSin j) (hKT : ∀ j, j < 16 → KT j = kTrn j) : kC l yX5_sign cX5_sign 3 (some .int) 2 57 (0) (0) D cI cB [.ref m0] [(m0, .inr (5, [.ref yb, .ref yz, .ref ye, .int (nI dz), .int (nI sz), .int (nI wz), .int (nI bz), .int (nI uS), .int (nI uW), .ref ys, .ref yg, .int (nI mr), .int (nI ml), .int (nI mw), .int (nI ma), .ref yf, .ref yh, .ref yw, .ref yn, .ref yt, .ref yl, .int (nI tz)])), (yb, .inl (cB, 6000, .inl B)), (yz, .inl (cI, 3, .inl (zf ko kn kr))), (ys, .inl (cI, 2000, .inl S)), (yg, .inl (cB, 32000, .inl G)), (yf, .inl (cB, 2112, .inl F)), (yw, .inl (cI, 16, .inl V)), (yh, .inl (cI, 4, .inl H)), (yn, .inl (cI, 64, .inl KN)), (yt, .inl (cI, 16, .inl KT))] (fun (vV : Option Value) (uU : va_W) => ∃ (S9 : Nat → Int32) (G9 : Nat → Int32) (F9 : Nat → Int32) (V9 : Nat → Int32) (H9 : Nat → Int32), vV = some (.int (nI (ko / sz))) ∧ uU = [(m0, .inr (5, [.ref yb, .ref yz, .ref ye, .int (nI dz), .int (nI sz), .int (nI wz), .int (nI (ko / sz)), .int (nI sz), .int (nI wz), .ref ys, .ref yg, .int (nI mr), .int (nI ml), .int (nI mw), .int (nI ma), .ref yf, .ref yh, .ref yw, .ref yn, .ref yt, .ref yl, .int (nI tz)])), (yb, .inl (cB, 6000, .inl B)), (yz, .inl (cI, 3, .inl (zf ko kn kr))), (ys, .inl (cI, 2000, .inl S9)), (yg, .inl (cB, 32000, .inl G9)), (yf, .inl (cB, 2112, .inl F9)), (yw, .inl (cI, 16, .inl V9)), (yh, .inl (cI, 4, .inl H9)), (yn, .inl (cI, 64, .inl KN)), (yt, .inl (cI, 16, .inl KT))] ∧ (kSums f S9 sz (ko / sz)) ∧ (kDigs f G9 sz (ko / sz))) := by
  refine k_entry (lv0 := [(0, .ref m0)]) (by decide) (Nat.le_of_ble_eq_true rfl) rfl ?_
  intro zp ze zs zm zb zt zc zA X hr hin
  have hnb : ko / sz ≤ 2000 := Nat.le_trans (Nat.div_le_self ko sz) (by omega)
  refine k_aload_n X dX5_sign_0 rfl 0 rfl ?_
  refine k_aload_n X dX5_sign_1 rfl 0 rfl ?_
  refine k_get (v := .int (nI sz)) X 0 5 4 rfl rfl (by decide) fl_X5_20 in_X5 rfl rfl dX5_sign_2 ?_
  refine k_put (v := .int (nI sz)) (ty := .int) (ws' := [(m0, .inr (5, [.ref yb, .ref yz, .ref ye, .int (nI dz), .int (nI sz), .int (nI wz), .int (nI bz), .int (nI sz), .int (nI uW), .ref ys, .ref yg, .int (nI mr), .int (nI ml), .int (nI mw), .int (nI ma), .ref yf, .ref yh, .ref yw, .ref yn, .ref yt, .ref yl, .int (nI tz)])), (yb, .inl (cB, 6000, .inl B)), (yz, .inl (cI, 3, .inl (zf ko kn kr))), (ys, .inl (cI, 2000, .inl S)), (yg, .inl (cB, 32000, .inl G)), (yf, .inl (cB, 2112, .inl F)), (yw, .inl (cI, 16, .inl V)), (yh, .inl (cI, 4, .inl H)), (yn, .inl (cI, 64, .inl KN)), (yt, .inl (cI, 16, .inl KT))]) X 0 5 7 tyX5 tyX5_ok nmX5 rfl rfl (by decide) fl_X5_27 in_X5 rfl rfl (by decide +kernel) rfl rfl (Nat.le_of_ble_eq_true rfl) rfl dX5_sign_5 ?_
  refine k_aload_n X dX5_sign_8 rfl 0 rfl ?_
  refine k_aload_n X dX5_sign_9 rfl 0 rfl ?_
  refine k_get (v := .int (nI wz)) X 0 5 5 rfl rfl (by decide) fl_X5_24 in_X5 rfl rfl dX5_sign_10 ?_
  refine k_put (v := .int (nI wz)) (ty := .int) (ws' := [(m0, .inr (5, [.ref yb, .ref yz, .ref ye, .int (nI dz), .int (nI sz), .int (nI wz), .int (nI bz), .int (nI sz), .int (nI wz), .ref ys, .ref yg, .int (nI mr), .int (nI ml), .int (nI mw), .int (nI ma), .ref yf, .ref yh, .ref yw, .ref yn, .ref yt, .ref yl, .int (nI tz)])), (yb, .inl (cB, 6000, .inl B)), (yz, .inl (cI, 3, .inl (zf ko kn kr))), (ys, .inl (cI, 2000, .inl S)), (yg, .inl (cB, 32000, .inl G)), (yf, .inl (cB, 2112, .inl F)), (yw, .inl (cI, 16, .inl V)), (yh, .inl (cI, 4, .inl H)), (yn, .inl (cI, 64, .inl KN)), (yt, .inl (cI, 16, .inl KT))]) X 0 5 8 tyX5 tyX5_ok nmX5 rfl rfl (by decide) fl_X5_30 in_X5 rfl rfl (by decide +kernel) rfl rfl (Nat.le_of_ble_eq_true rfl) rfl dX5_sign_13 ?_
  refine k_aload_n X dX5_sign_16 rfl 0 rfl ?_
  refine k_aload_n X dX5_sign_17 rfl 0 rfl ?_
  refine k_get (v := .ref yz) X 0 5 1 rfl rfl (by decide) fl_X5_13 in_X5 rfl rfl dX5_sign_18 ?_
  refine k_iconst (v := 0) X dX5_sign_21 (by decide) ?_
  refine k_iald (v := (zf ko kn kr) 0) X 2 rfl (vp_in_nI (n := 0) (by omega) (by omega)) (by rw [show ((0 : Int32).toNatClampNeg) = 0 from rfl]) dX5_sign_22 ?_
  refine k_as (y := nI ko) (rfl) ?_
  refine k_aload_n X dX5_sign_23 rfl 0 rfl ?_
  refine k_get (v := .int (nI sz)) X 0 5 4 rfl rfl (by decide) fl_X5_20 in_X5 rfl rfl dX5_sign_24 ?_
  refine k_idiv X dX5_sign_27 (nI_ne0 (by omega) (by omega)) ?_
  refine k_as (y := nI (ko / sz)) (pk_div (by omega) (by omega) (by omega)) ?_
  refine k_put (v := .int (nI (ko / sz))) (ty := .int) (ws' := [(m0, .inr (5, [.ref yb, .ref yz, .ref ye, .int (nI dz), .int (nI sz), .int (nI wz), .int (nI (ko / sz)), .int (nI sz), .int (nI wz), .ref ys, .ref yg, .int (nI mr), .int (nI ml), .int (nI mw), .int (nI ma), .ref yf, .ref yh, .ref yw, .ref yn, .ref yt, .ref yl, .int (nI tz)])), (yb, .inl (cB, 6000, .inl B)), (yz, .inl (cI, 3, .inl (zf ko kn kr))), (ys, .inl (cI, 2000, .inl S)), (yg, .inl (cB, 32000, .inl G)), (yf, .inl (cB, 2112, .inl F)), (yw, .inl (cI, 16, .inl V)), (yh, .inl (cI, 4, .inl H)), (yn, .inl (cI, 64, .inl KN)), (yt, .inl (cI, 16, .inl KT))]) X 0 5 6 tyX5 tyX5_ok nmX5 rfl rfl (by decide) fl_X5_136 in_X5 rfl rfl (by decide +kernel) rfl rfl (Nat.le_of_ble_eq_true rfl) rfl dX5_sign_28 ?_
  refine k_iconst (v := 0) X dX5_sign_31 (by decide) ?_
  refine k_istore_n (lv' := [(1, .int 0), (0, .ref m0)]) X dX5_sign_32 rfl (by decide) rfl ?_
  refine k_lv (lv' := [(0, .ref m0), (1, .int (nI 0))]) [1, 0] rfl ?_
  refine k_sub (ws' := [(m0, .inr (5, [.ref yb, .ref yz, .ref ye, .int (nI dz), .int (nI sz), .int (nI wz), .int (nI (ko / sz)), .int (nI sz), .int (nI wz), .ref ys, .ref yg, .int (nI mr), .int (nI ml), .int (nI mw), .int (nI ma), .ref yf, .ref yh, .ref yw, .ref yn, .ref yt, .ref yl, .int (nI tz)])), (yb, .inl (cB, 6000, .inl B)), (yz, .inl (cI, 3, .inl (zf ko kn kr))), (ys, .inl (cI, 2000, .inl S)), (yg, .inl (cB, 32000, .inl G)), (yf, .inl (cB, 2112, .inl F)), (yw, .inl (cI, 16, .inl V)), (yh, .inl (cI, 4, .inl H)), (yn, .inl (cI, 64, .inl KN)), (yt, .inl (cI, 16, .inl KT))]) [0, 1, 2, 3, 4, 5, 6, 7, 8, 9] (by decide) rfl rfl ?_
  refine k_wide (k := 0) (n := 0) (by (try dsimp only); omega) (by (try dsimp only); omega) ?_
  refine k_loop6 (pc1 := 33) (cl := fun (b : Nat) (S1 : Nat → Int32) (G1 : Nat → Int32) (F1 : Nat → Int32) (V1 : Nat → Int32) (H1 : Nat → Int32) => 0) (sl := fun (b : Nat) (S1 : Nat → Int32) (G1 : Nat → Int32) (F1 : Nat → Int32) (V1 : Nat → Int32) (H1 : Nat → Int32) => 0) (wsf := fun (b : Nat) (S1 : Nat → Int32) (G1 : Nat → Int32) (F1 : Nat → Int32) (V1 : Nat → Int32) (H1 : Nat → Int32) => [(m0, .inr (5, [.ref yb, .ref yz, .ref ye, .int (nI dz), .int (nI sz), .int (nI wz), .int (nI (ko / sz)), .int (nI sz), .int (nI wz), .ref ys, .ref yg, .int (nI mr), .int (nI ml), .int (nI mw), .int (nI ma), .ref yf, .ref yh, .ref yw, .ref yn, .ref yt, .ref yl, .int (nI tz)])), (yb, .inl (cB, 6000, .inl B)), (yz, .inl (cI, 3, .inl (zf ko kn kr))), (ys, .inl (cI, 2000, .inl S1)), (yg, .inl (cB, 32000, .inl G1)), (yf, .inl (cB, 2112, .inl F1)), (yw, .inl (cI, 16, .inl V1)), (yh, .inl (cI, 4, .inl H1)), (yn, .inl (cI, 64, .inl KN)), (yt, .inl (cI, 16, .inl KT))]) (lvf := fun (b : Nat) (S1 : Nat → Int32) (G1 : Nat → Int32) (F1 : Nat → Int32) (V1 : Nat → Int32) (H1 : Nat → Int32) => [(0, .ref m0), (1, .int (nI b))]) (stf := fun (b : Nat) (S1 : Nat → Int32) (G1 : Nat → Int32) (F1 : Nat → Int32) (V1 : Nat → Int32) (H1 : Nat → Int32) => []) (I := fun (b : Nat) (S1 : Nat → Int32) (G1 : Nat → Int32) (F1 : Nat → Int32) (V1 : Nat → Int32) (H1 : Nat → Int32) => b ≤ ko / sz ∧ kSums f S1 sz b ∧ kDigs f G1 sz b) (mu := fun (b : Nat) (S1 : Nat → Int32) (G1 : Nat → Int32) (F1 : Nat → Int32) (V1 : Nat → Int32) (H1 : Nat → Int32) => ko / sz - b) ?_ 0 S G F V H (⟨Nat.zero_le _, fun b hb => absurd hb (Nat.not_lt_zero b), fun b hb => absurd hb (Nat.not_lt_zero b)⟩)
  intro b S1 G1 F1 V1 H1 hI ih
  try dsimp only at hI ih
  try dsimp only
  have hi := hI.1
  refine k_iload_n X dX5_sign_33 rfl 1 rfl ?_
  refine k_aload_n X dX5_sign_34 rfl 0 rfl ?_
  refine k_get (v := .int (nI (ko / sz))) X 0 5 6 rfl rfl (by decide) fl_X5_136 in_X5 rfl rfl dX5_sign_35 ?_
  refine k_icmp_ge (tgt := 112) (xi := ((b : Nat) : Int)) (yi := (((ko / sz) : Nat) : Int)) X (nI_toInt (by omega)) (nI_toInt (by omega)) dX5_sign_38 (by decide) (fun c_38 => ?_) (fun c_38 => ?_)
  · refine k_aload_n X dX5_sign_112 rfl 0 rfl ?_
    refine k_get (v := .int (nI (ko / sz))) X 0 5 6 rfl rfl (by decide) fl_X5_136 in_X5 rfl rfl dX5_sign_113 ?_
    exact k_iret (u := [(m0, .inr (5, [.ref yb, .ref yz, .ref ye, .int (nI dz), .int (nI sz), .int (nI wz), .int (nI (ko / sz)), .int (nI sz), .int (nI wz), .ref ys, .ref yg, .int (nI mr), .int (nI ml), .int (nI mw), .int (nI ma), .ref yf, .ref yh, .ref yw, .ref yn, .ref yt, .ref yl, .int (nI tz)])), (yb, .inl (cB, 6000, .inl B)), (yz, .inl (cI, 3, .inl (zf ko kn kr))), (ys, .inl (cI, 2000, .inl S1)), (yg, .inl (cB, 32000, .inl G1)), (yf, .inl (cB, 2112, .inl F1)), (yw, .inl (cI, 16, .inl V1)), (yh, .inl (cI, 4, .inl H1)), (yn, .inl (cI, 64, .inl KN)), (yt, .inl (cI, 16, .inl KT))]) X hr [0, 1, 2, 3, 4, 5, 6, 7, 8, 9] (by decide) rfl rfl (⟨S1, G1, F1, V1, H1, rfl, rfl, fun c hc => hI.2.1 c (by omega), fun c hc => hI.2.2 c (by omega)⟩) (by (try dsimp only); omega) (by (try dsimp only); omega) dX5_sign_116
  · have hfit := blk_fit (k := ko) (bs := sz) (b := b) (by omega)
    refine k_aload_n X dX5_sign_41 rfl 0 rfl ?_
    refine k_get (v := .ref ys) X 0 5 9 rfl rfl (by decide) fl_X5_33 in_X5 rfl rfl dX5_sign_42 ?_
    refine k_iload_n X dX5_sign_45 rfl 1 rfl ?_
    refine k_aload_n X dX5_sign_46 rfl 0 rfl ?_
    refine k_aload_n X dX5_sign_47 rfl 0 rfl ?_
    refine k_get (v := .int (nI sz)) X 0 5 4 rfl rfl (by decide) fl_X5_20 in_X5 rfl rfl dX5_sign_48 ?_
    refine k_iload_n X dX5_sign_51 rfl 1 rfl ?_
    refine k_imul X dX5_sign_52 ?_
    refine k_as (y := nI (sz * b)) (n_mul sz b) ?_
    refine k_aload_n X dX5_sign_53 rfl 0 rfl ?_
    refine k_get (v := .int (nI sz)) X 0 5 4 rfl rfl (by decide) fl_X5_20 in_X5 rfl rfl dX5_sign_54 ?_
    refine k_callV (wc := [(m0, .inr (5, [.ref yb, .ref yz, .ref ye, .int (nI dz), .int (nI sz), .int (nI wz), .int (nI (ko / sz)), .int (nI sz), .int (nI wz), .ref ys, .ref yg, .int (nI mr), .int (nI ml), .int (nI mw), .int (nI ma), .ref yf, .ref yh, .ref yw, .ref yn, .ref yt, .ref yl, .int (nI tz)])), (yb, .inl (cB, 6000, .inl B))]) (wr := [(yz, .inl (cI, 3, .inl (zf ko kn kr))), (ys, .inl (cI, 2000, .inl S1)), (yg, .inl (cB, 32000, .inl G1)), (yf, .inl (cB, 2112, .inl F1)), (yw, .inl (cI, 16, .inl V1)), (yh, .inl (cI, 4, .inl H1)), (yn, .inl (cI, 64, .inl KN)), (yt, .inl (cI, 16, .inl KT))]) (As := [.int (nI (sz * b)), .int (nI sz)]) (n := 2) (st := [.int (nI b), .ref ys]) (q0 := 0) X (m_sumOf l D cI cB m0 yb yz ye ys yg yf yh yw yn yt yl dz sz wz (ko / sz) sz wz mr ml mw ma tz B f (sz * b) (sz * b) sz (by omega) (fun j hj => hB (sz * b + j) (by omega))) rfl rfl ml_X5_139 im_X5_sumOf se_X5_sumOf ini_X5 co_X5_sumOf (by decide +kernel) rfl ⟨Nat.le_of_ble_eq_true rfl, Nat.le_of_ble_eq_true rfl⟩ (⟨by (try dsimp only); omega, by (try dsimp only); omega⟩) (Nat.le_of_ble_eq_true rfl) [0, 1] [2, 3, 4, 5, 6, 7, 8, 9] rfl rfl rfl (by decide) (by decide) (by decide) rfl dX5_sign_57 (fun v_57 u_57 hu_57 => ?_)
    obtain ⟨rfl, rfl⟩ := hu_57
    refine k_to (ws' := [(yz, .inl (cI, 3, .inl (zf ko kn kr))), (ys, .inl (cI, 2000, .inl S1)), (yg, .inl (cB, 32000, .inl G1)), (yf, .inl (cB, 2112, .inl F1)), (yw, .inl (cI, 16, .inl V1)), (yh, .inl (cI, 4, .inl H1)), (yn, .inl (cI, 64, .inl KN)), (yt, .inl (cI, 16, .inl KT)), (m0, .inr (5, [.ref yb, .ref yz, .ref ye, .int (nI dz), .int (nI sz), .int (nI wz), .int (nI (ko / sz)), .int (nI sz), .int (nI wz), .ref ys, .ref yg, .int (nI mr), .int (nI ml), .int (nI mw), .int (nI ma), .ref yf, .ref yh, .ref yw, .ref yn, .ref yt, .ref yl, .int (nI tz)])), (yb, .inl (cB, 6000, .inl B))]) (st' := [.int (sSum f (sz * b) sz), .int (nI b), .ref ys]) rfl rfl ?_
    refine k_iast (f' := upd S1 b (sSum f (sz * b) sz)) (ws' := [(yz, .inl (cI, 3, .inl (zf ko kn kr))), (ys, .inl (cI, 2000, .inl (upd S1 b (sSum f (sz * b) sz)))), (yg, .inl (cB, 32000, .inl G1)), (yf, .inl (cB, 2112, .inl F1)), (yw, .inl (cI, 16, .inl V1)), (yh, .inl (cI, 4, .inl H1)), (yn, .inl (cI, 64, .inl KN)), (yt, .inl (cI, 16, .inl KT)), (m0, .inr (5, [.ref yb, .ref yz, .ref ye, .int (nI dz), .int (nI sz), .int (nI wz), .int (nI (ko / sz)), .int (nI sz), .int (nI wz), .ref ys, .ref yg, .int (nI mr), .int (nI ml), .int (nI mw), .int (nI ma), .ref yf, .ref yh, .ref yw, .ref yn, .ref yt, .ref yl, .int (nI tz)])), (yb, .inl (cB, 6000, .inl B))]) X 1 rfl (vp_in_nI (n := b) (by omega) (by omega)) (by rw [nI_clamp (n := b) (by omega)]) rfl dX5_sign_60 ?_
    refine k_aload_n X dX5_sign_61 rfl 0 rfl ?_
    refine k_aload_n X dX5_sign_62 rfl 0 rfl ?_
    refine k_get (v := .int (nI sz)) X 8 5 4 rfl rfl (by decide) fl_X5_20 in_X5 rfl rfl dX5_sign_63 ?_
    refine k_iload_n X dX5_sign_66 rfl 1 rfl ?_
    refine k_imul X dX5_sign_67 ?_
    refine k_as (y := nI (sz * b)) (n_mul sz b) ?_
    refine k_aload_n X dX5_sign_68 rfl 0 rfl ?_
    refine k_get (v := .int (nI sz)) X 8 5 4 rfl rfl (by decide) fl_X5_20 in_X5 rfl rfl dX5_sign_69 ?_
    refine k_callV (wc := [(m0, .inr (5, [.ref yb, .ref yz, .ref ye, .int (nI dz), .int (nI sz), .int (nI wz), .int (nI (ko / sz)), .int (nI sz), .int (nI wz), .ref ys, .ref yg, .int (nI mr), .int (nI ml), .int (nI mw), .int (nI ma), .ref yf, .ref yh, .ref yw, .ref yn, .ref yt, .ref yl, .int (nI tz)])), (yb, .inl (cB, 6000, .inl B)), (yf, .inl (cB, 2112, .inl F1)), (yw, .inl (cI, 16, .inl V1)), (yh, .inl (cI, 4, .inl H1)), (yn, .inl (cI, 64, .inl KN)), (yt, .inl (cI, 16, .inl KT))]) (wr := [(yz, .inl (cI, 3, .inl (zf ko kn kr))), (ys, .inl (cI, 2000, .inl (upd S1 b (sSum f (sz * b) sz)))), (yg, .inl (cB, 32000, .inl G1))]) (As := [.int (nI (sz * b)), .int (nI sz)]) (n := 2) (st := []) (q0 := 0) X (m_digestOf l D cI cB m0 yb yz ye ys yg yf yh yw yn yt yl dz sz wz (ko / sz) sz wz mr ml mw ma tz B F1 V1 H1 KN KT f (sz * b) (sz * b) sz (by omega) (by omega) (fun j hj => hB (sz * b + j) (by omega)) (hKN) (hKT)) rfl rfl ml_X5_143 im_X5_digestOf se_X5_digestOf ini_X5 co_X5_digestOf (by decide +kernel) rfl ⟨Nat.le_of_ble_eq_true rfl, Nat.le_of_ble_eq_true rfl⟩ (⟨by (try dsimp only); omega, by (try dsimp only); omega⟩) (Nat.le_of_ble_eq_true rfl) [8, 9, 3, 4, 5, 6, 7] [0, 1, 2] rfl rfl rfl (by decide) (by decide) (by decide) rfl dX5_sign_72 (fun v_72 u_72 hu_72 => ?_)
    obtain ⟨F3, V3, H3, rfl, rfl, hH3⟩ := hu_72
    refine k_to (ws' := [(yz, .inl (cI, 3, .inl (zf ko kn kr))), (ys, .inl (cI, 2000, .inl (upd S1 b (sSum f (sz * b) sz)))), (yg, .inl (cB, 32000, .inl G1)), (m0, .inr (5, [.ref yb, .ref yz, .ref ye, .int (nI dz), .int (nI sz), .int (nI wz), .int (nI (ko / sz)), .int (nI sz), .int (nI wz), .ref ys, .ref yg, .int (nI mr), .int (nI ml), .int (nI mw), .int (nI ma), .ref yf, .ref yh, .ref yw, .ref yn, .ref yt, .ref yl, .int (nI tz)])), (yb, .inl (cB, 6000, .inl B)), (yf, .inl (cB, 2112, .inl F3)), (yw, .inl (cI, 16, .inl V3)), (yh, .inl (cI, 4, .inl H3)), (yn, .inl (cI, 64, .inl KN)), (yt, .inl (cI, 16, .inl KT))]) (st' := []) rfl rfl ?_
    refine k_iconst (v := 0) X dX5_sign_75 (by decide) ?_
    refine k_istore_n (lv' := [(2, .int 0), (0, .ref m0), (1, .int (nI b))]) X dX5_sign_76 rfl (by decide) rfl ?_
    refine k_lv (lv' := [(0, .ref m0), (1, .int (nI b)), (2, .int (nI 0))]) [1, 2, 0] rfl ?_
    refine k_sub (ws' := [(m0, .inr (5, [.ref yb, .ref yz, .ref ye, .int (nI dz), .int (nI sz), .int (nI wz), .int (nI (ko / sz)), .int (nI sz), .int (nI wz), .ref ys, .ref yg, .int (nI mr), .int (nI ml), .int (nI mw), .int (nI ma), .ref yf, .ref yh, .ref yw, .ref yn, .ref yt, .ref yl, .int (nI tz)])), (yb, .inl (cB, 6000, .inl B)), (yz, .inl (cI, 3, .inl (zf ko kn kr))), (ys, .inl (cI, 2000, .inl (upd S1 b (sSum f (sz * b) sz)))), (yg, .inl (cB, 32000, .inl G1)), (yf, .inl (cB, 2112, .inl F3)), (yw, .inl (cI, 16, .inl V3)), (yh, .inl (cI, 4, .inl H3)), (yn, .inl (cI, 64, .inl KN)), (yt, .inl (cI, 16, .inl KT))]) [3, 4, 0, 1, 2, 5, 6, 7, 8, 9] (by decide) rfl rfl ?_
    refine k_wide (k := 0) (n := 0) (by (try dsimp only); omega) (by (try dsimp only); omega) ?_
    refine k_loop2 (pc1 := 77) (cl := fun (q : Nat) (dgk : Nat → Int32) => 0) (sl := fun (q : Nat) (dgk : Nat → Int32) => 0) (wsf := fun (q : Nat) (dgk : Nat → Int32) => [(m0, .inr (5, [.ref yb, .ref yz, .ref ye, .int (nI dz), .int (nI sz), .int (nI wz), .int (nI (ko / sz)), .int (nI sz), .int (nI wz), .ref ys, .ref yg, .int (nI mr), .int (nI ml), .int (nI mw), .int (nI ma), .ref yf, .ref yh, .ref yw, .ref yn, .ref yt, .ref yl, .int (nI tz)])), (yb, .inl (cB, 6000, .inl B)), (yz, .inl (cI, 3, .inl (zf ko kn kr))), (ys, .inl (cI, 2000, .inl (upd S1 b (sSum f (sz * b) sz)))), (yg, .inl (cB, 32000, .inl dgk)), (yf, .inl (cB, 2112, .inl F3)), (yw, .inl (cI, 16, .inl V3)), (yh, .inl (cI, 4, .inl H3)), (yn, .inl (cI, 64, .inl KN)), (yt, .inl (cI, 16, .inl KT))]) (lvf := fun (q : Nat) (dgk : Nat → Int32) => [(0, .ref m0), (1, .int (nI b)), (2, .int (nI q))]) (stf := fun (q : Nat) (dgk : Nat → Int32) => []) (I := fun (q : Nat) (dgk : Nat → Int32) => q ≤ 16 ∧ kDigs f dgk sz b ∧ ∀ j, j < q → dgk (16 * b + j) = sx (dByte (mDig f (sz * b) sz) j)) (mu := fun (q : Nat) (dgk : Nat → Int32) => 16 - q) ?_ 0 G1 (⟨Nat.zero_le _, hI.2.2, fun j hj => absurd hj (Nat.not_lt_zero j)⟩)
    intro q dgk hJ jh
    try dsimp only at hJ jh
    try dsimp only
    have hjq := hJ.1
    refine k_iload_n X dX5_sign_77 rfl 2 rfl ?_
    refine k_bipush (v := 16) X dX5_sign_78 (by decide) ?_
    refine k_icmp_ge (tgt := 106) (xi := ((q : Nat) : Int)) (yi := (16 : Int)) X (nI_toInt (by omega)) (by decide) dX5_sign_80 (by decide) (fun c_80 => ?_) (fun c_80 => ?_)
    · refine k_iinc (v := nI (b + 1)) (lv' := [(1, .int (nI (b + 1))), (0, .ref m0), (2, .int (nI q))]) X dX5_sign_106 1 rfl (nI_1 _) (by decide) rfl ?_
      refine k_goto (tgt := 33) X dX5_sign_109 (by decide) ?_
      refine k_lv (lv' := [(0, .ref m0), (1, .int (nI (b + 1)))]) [1, 0] rfl ?_
      refine k_sub (ws' := [(m0, .inr (5, [.ref yb, .ref yz, .ref ye, .int (nI dz), .int (nI sz), .int (nI wz), .int (nI (ko / sz)), .int (nI sz), .int (nI wz), .ref ys, .ref yg, .int (nI mr), .int (nI ml), .int (nI mw), .int (nI ma), .ref yf, .ref yh, .ref yw, .ref yn, .ref yt, .ref yl, .int (nI tz)])), (yb, .inl (cB, 6000, .inl B)), (yz, .inl (cI, 3, .inl (zf ko kn kr))), (ys, .inl (cI, 2000, .inl (upd S1 b (sSum f (sz * b) sz)))), (yg, .inl (cB, 32000, .inl dgk)), (yf, .inl (cB, 2112, .inl F3)), (yw, .inl (cI, 16, .inl V3)), (yh, .inl (cI, 4, .inl H3)), (yn, .inl (cI, 64, .inl KN)), (yt, .inl (cI, 16, .inl KT))]) [0, 1, 2, 3, 4, 5, 6, 7, 8, 9] (by decide) rfl rfl ?_
      refine k_wide (k := 0) (n := 0) (by (try dsimp only); omega) (by (try dsimp only); omega) ?_
      exact ih (b + 1) (upd S1 b (sSum f (sz * b) sz)) dgk F3 V3 H3 (⟨by omega, lt_s (fun c hc => by rw [pk_un (by omega)]; exact hI.2.1 c hc) pk_us, lt_s hJ.2.1 (fun j hj => hJ.2.2 j (by omega))⟩) (by omega)
    · refine k_aload_n X dX5_sign_83 rfl 0 rfl ?_
      refine k_get (v := .ref yg) X 0 5 10 rfl rfl (by decide) fl_X5_36 in_X5 rfl rfl dX5_sign_84 ?_
      refine k_bipush (v := 16) X dX5_sign_87 (by decide) ?_
      refine k_iload_n X dX5_sign_89 rfl 1 rfl ?_
      refine k_imul X dX5_sign_90 ?_
      refine k_as (y := nI (16 * b)) (n_mul 16 b) ?_
      refine k_iload_n X dX5_sign_91 rfl 2 rfl ?_
      refine k_iadd X dX5_sign_92 ?_
      refine k_as (y := nI (16 * b + q)) (nI_add _ _) ?_
      refine k_aload_n X dX5_sign_93 rfl 0 rfl ?_
      refine k_iload_n X dX5_sign_94 rfl 2 rfl ?_
      refine k_callV (wc := [(m0, .inr (5, [.ref yb, .ref yz, .ref ye, .int (nI dz), .int (nI sz), .int (nI wz), .int (nI (ko / sz)), .int (nI sz), .int (nI wz), .ref ys, .ref yg, .int (nI mr), .int (nI ml), .int (nI mw), .int (nI ma), .ref yf, .ref yh, .ref yw, .ref yn, .ref yt, .ref yl, .int (nI tz)])), (yh, .inl (cI, 4, .inl H3))]) (wr := [(yb, .inl (cB, 6000, .inl B)), (yz, .inl (cI, 3, .inl (zf ko kn kr))), (ys, .inl (cI, 2000, .inl (upd S1 b (sSum f (sz * b) sz)))), (yg, .inl (cB, 32000, .inl dgk)), (yf, .inl (cB, 2112, .inl F3)), (yw, .inl (cI, 16, .inl V3)), (yn, .inl (cI, 64, .inl KN)), (yt, .inl (cI, 16, .inl KT))]) (As := [.int (nI q)]) (n := 1) (st := [.int (nI (16 * b + q)), .ref yg]) (q0 := 0) X (m_digestByte l D cI cB m0 yb yz ye ys yg yf yh yw yn yt yl dz sz wz (ko / sz) sz wz mr ml mw ma tz H3 q (by omega)) rfl rfl ml_X5_147 im_X5_digestByte se_X5_digestByte ini_X5 co_X5_digestByte (by decide +kernel) rfl ⟨Nat.le_of_ble_eq_true rfl, Nat.le_of_ble_eq_true rfl⟩ (⟨by (try dsimp only); omega, by (try dsimp only); omega⟩) (Nat.le_of_ble_eq_true rfl) [0, 7] [1, 2, 3, 4, 5, 6, 8, 9] rfl rfl rfl (by decide) (by decide) (by decide) rfl dX5_sign_95 (fun v_95 u_95 hu_95 => ?_)
      obtain ⟨rfl, rfl⟩ := hu_95
      refine k_to (ws' := [(yb, .inl (cB, 6000, .inl B)), (yz, .inl (cI, 3, .inl (zf ko kn kr))), (ys, .inl (cI, 2000, .inl (upd S1 b (sSum f (sz * b) sz)))), (yg, .inl (cB, 32000, .inl dgk)), (yf, .inl (cB, 2112, .inl F3)), (yw, .inl (cI, 16, .inl V3)), (yn, .inl (cI, 64, .inl KN)), (yt, .inl (cI, 16, .inl KT)), (m0, .inr (5, [.ref yb, .ref yz, .ref ye, .int (nI dz), .int (nI sz), .int (nI wz), .int (nI (ko / sz)), .int (nI sz), .int (nI wz), .ref ys, .ref yg, .int (nI mr), .int (nI ml), .int (nI mw), .int (nI ma), .ref yf, .ref yh, .ref yw, .ref yn, .ref yt, .ref yl, .int (nI tz)])), (yh, .inl (cI, 4, .inl H3))]) (st' := [.int (dByte H3 q), .int (nI (16 * b + q)), .ref yg]) rfl rfl ?_
      refine k_i2b (v := (dByte H3 q).toInt8.toInt32) X dX5_sign_98 rfl ?_
      refine k_bast (f' := upd dgk (16 * b + q) (vp_nar .byte ((dByte H3 q).toInt8.toInt32))) (ws' := [(yb, .inl (cB, 6000, .inl B)), (yz, .inl (cI, 3, .inl (zf ko kn kr))), (ys, .inl (cI, 2000, .inl (upd S1 b (sSum f (sz * b) sz)))), (yg, .inl (cB, 32000, .inl (upd dgk (16 * b + q) (vp_nar .byte ((dByte H3 q).toInt8.toInt32))))), (yf, .inl (cB, 2112, .inl F3)), (yw, .inl (cI, 16, .inl V3)), (yn, .inl (cI, 64, .inl KN)), (yt, .inl (cI, 16, .inl KT)), (m0, .inr (5, [.ref yb, .ref yz, .ref ye, .int (nI dz), .int (nI sz), .int (nI wz), .int (nI (ko / sz)), .int (nI sz), .int (nI wz), .ref ys, .ref yg, .int (nI mr), .int (nI ml), .int (nI mw), .int (nI ma), .ref yf, .ref yh, .ref yw, .ref yn, .ref yt, .ref yl, .int (nI tz)])), (yh, .inl (cI, 4, .inl H3))]) X 3 rfl (vp_in_nI (n := 16 * b + q) (by omega) (by omega)) (by rw [nI_clamp (n := 16 * b + q) (by omega)]) rfl dX5_sign_99 ?_
      refine k_iinc (v := nI (q + 1)) (lv' := [(2, .int (nI (q + 1))), (0, .ref m0), (1, .int (nI b))]) X dX5_sign_100 2 rfl (nI_1 _) (by decide) rfl ?_
      refine k_goto (tgt := 77) X dX5_sign_103 (by decide) ?_
      refine k_lv (lv' := [(0, .ref m0), (1, .int (nI b)), (2, .int (nI (q + 1)))]) [1, 2, 0] rfl ?_
      refine k_sub (ws' := [(m0, .inr (5, [.ref yb, .ref yz, .ref ye, .int (nI dz), .int (nI sz), .int (nI wz), .int (nI (ko / sz)), .int (nI sz), .int (nI wz), .ref ys, .ref yg, .int (nI mr), .int (nI ml), .int (nI mw), .int (nI ma), .ref yf, .ref yh, .ref yw, .ref yn, .ref yt, .ref yl, .int (nI tz)])), (yb, .inl (cB, 6000, .inl B)), (yz, .inl (cI, 3, .inl (zf ko kn kr))), (ys, .inl (cI, 2000, .inl (upd S1 b (sSum f (sz * b) sz)))), (yg, .inl (cB, 32000, .inl (upd dgk (16 * b + q) (vp_nar .byte (dByte H3 q).toInt8.toInt32)))), (yf, .inl (cB, 2112, .inl F3)), (yw, .inl (cI, 16, .inl V3)), (yh, .inl (cI, 4, .inl H3)), (yn, .inl (cI, 64, .inl KN)), (yt, .inl (cI, 16, .inl KT))]) [8, 0, 1, 2, 3, 4, 5, 9, 6, 7] (by decide) rfl rfl ?_
      refine k_wide (k := 0) (n := 0) (by (try dsimp only); omega) (by (try dsimp only); omega) ?_
      exact jh (q + 1) (upd dgk (16 * b + q) (vp_nar .byte (dByte H3 q).toInt8.toInt32)) (⟨by omega, digs_step hJ.2.1 hJ.2.2 (by omega) (by rw [pk_vb, dByte_congr hH3 (by omega)]; rfl)⟩) (by omega)
set_option maxHeartbeats 4000000 in
set_option maxRecDepth 100000 in
theorem m_blockAt (l : Launch) (D : va_G) (cI cB : ClassId) (m0 : Nat) (yb : Nat) (yz : Nat) (ye : Nat) (ys : Nat) (yg : Nat) (yf : Nat) (yh : Nat) (yw : Nat) (yn : Nat) (yt : Nat) (yl : Nat) (dz : Nat) (sz : Nat) (wz : Nat) (bz : Nat) (uS : Nat) (uW : Nat) (mr : Nat) (ml : Nat) (mw : Nat) (ma : Nat) (tz : Nat) (B : Nat → Int32) (S : Nat → Int32) (G : Nat → Int32) (F : Nat → Int32) (V : Nat → Int32) (H : Nat → Int32) (KN : Nat → Int32) (KT : Nat → Int32) (f : Nat → Int32) (ko : Nat) (kn : Nat) (kr : Nat) (p : Nat) (wn : Int32) (hn : kn ≤ 2000) (hz : bz ≤ 2000) (hw : uW ≤ 16) (hpu : p + uS ≤ kn) (hBy : ∀ j, j < kn → (B (2000 + j) &&& 255) = f j) (hKN : ∀ j, j < 64 → KN j = kSin j) (hKT : ∀ j, j < 16 → KT j = kTrn j) : kC l yX5_blockAt cX5_blockAt 7 (some .int) 2 57 (0) (0) D cI cB [.ref m0, .int (nI p), .int wn] [(m0, .inr (5, [.ref yb, .ref yz, .ref ye, .int (nI dz), .int (nI sz), .int (nI wz), .int (nI bz), .int (nI uS), .int (nI uW), .ref ys, .ref yg, .int (nI mr), .int (nI ml), .int (nI mw), .int (nI ma), .ref yf, .ref yh, .ref yw, .ref yn, .ref yt, .ref yl, .int (nI tz)])), (yb, .inl (cB, 6000, .inl B)), (yz, .inl (cI, 3, .inl (zf ko kn kr))), (ys, .inl (cI, 2000, .inl S)), (yg, .inl (cB, 32000, .inl G)), (yf, .inl (cB, 2112, .inl F)), (yw, .inl (cI, 16, .inl V)), (yh, .inl (cI, 4, .inl H)), (yn, .inl (cI, 64, .inl KN)), (yt, .inl (cI, 16, .inl KT))] (fun (vV : Option Value) (uU : va_W) => ∃ (F9 : Nat → Int32) (V9 : Nat → Int32) (H9 : Nat → Int32), vV = some (.int (fnd S G (mDig f p uS) bz uW (sSum f p uS) wn)) ∧ uU = [(m0, .inr (5, [.ref yb, .ref yz, .ref ye, .int (nI dz), .int (nI sz), .int (nI wz), .int (nI bz), .int (nI uS), .int (nI uW), .ref ys, .ref yg, .int (nI mr), .int (nI ml), .int (nI mw), .int (nI (ma + (if ¬ cN (pS S (sSum f p uS)) bz 0 = -1 ∧ fnd S G (mDig f p uS) bz uW (sSum f p uS) wn = -1 then 1 else 0))), .ref yf, .ref yh, .ref yw, .ref yn, .ref yt, .ref yl, .int (nI tz)])), (yb, .inl (cB, 6000, .inl B)), (yz, .inl (cI, 3, .inl (zf ko kn kr))), (ys, .inl (cI, 2000, .inl S)), (yg, .inl (cB, 32000, .inl G)), (yf, .inl (cB, 2112, .inl F9)), (yw, .inl (cI, 16, .inl V9)), (yh, .inl (cI, 4, .inl H9)), (yn, .inl (cI, 64, .inl KN)), (yt, .inl (cI, 16, .inl KT))]) := by
  refine k_entry (lv0 := [(0, .ref m0), (1, .int (nI p)), (2, .int wn)]) (by decide) (Nat.le_of_ble_eq_true rfl) rfl ?_
  intro zp ze zs zm zb zt zc zA X hr hin
  refine k_iload_n X dX5_blockAt_0 rfl 1 rfl ?_
  refine k_aload_n X dX5_blockAt_1 rfl 0 rfl ?_
  refine k_get (v := .int (nI uS)) X 0 5 7 rfl rfl (by decide) fl_X5_27 in_X5 rfl rfl dX5_blockAt_2 ?_
  refine k_iadd X dX5_blockAt_5 ?_
  refine k_as (y := nI (p + uS)) (nI_add _ _) ?_
  refine k_aload_n X dX5_blockAt_6 rfl 0 rfl ?_
  refine k_get (v := .ref yz) X 0 5 1 rfl rfl (by decide) fl_X5_13 in_X5 rfl rfl dX5_blockAt_7 ?_
  refine k_iconst (v := 1) X dX5_blockAt_10 (by decide) ?_
  refine k_iald (v := (zf ko kn kr) 1) X 2 rfl (vp_in_nI (n := 1) (by omega) (by omega)) (by rw [show ((1 : Int32).toNatClampNeg) = 1 from rfl]) dX5_blockAt_11 ?_
  refine k_as (y := nI kn) (rfl) ?_
  refine k_icmp_le (tgt := 17) (xi := (((p + uS) : Nat) : Int)) (yi := ((kn : Nat) : Int)) X (nI_toInt (by omega)) (nI_toInt (by omega)) dX5_blockAt_12 (by decide) (fun c_12 => ?_) (fun c_12 => ?_)
  · refine k_aload_n X dX5_blockAt_17 rfl 0 rfl ?_
    refine k_sipush (v := 2000) X dX5_blockAt_18 (by decide) ?_
    refine k_iload_n X dX5_blockAt_21 rfl 1 rfl ?_
    refine k_iadd X dX5_blockAt_22 ?_
    refine k_as (y := nI (2000 + p)) (nI_add 2000 p) ?_
    refine k_aload_n X dX5_blockAt_23 rfl 0 rfl ?_
    refine k_get (v := .int (nI uS)) X 0 5 7 rfl rfl (by decide) fl_X5_27 in_X5 rfl rfl dX5_blockAt_24 ?_
    refine k_callV (wc := [(m0, .inr (5, [.ref yb, .ref yz, .ref ye, .int (nI dz), .int (nI sz), .int (nI wz), .int (nI bz), .int (nI uS), .int (nI uW), .ref ys, .ref yg, .int (nI mr), .int (nI ml), .int (nI mw), .int (nI ma), .ref yf, .ref yh, .ref yw, .ref yn, .ref yt, .ref yl, .int (nI tz)])), (yb, .inl (cB, 6000, .inl B))]) (wr := [(yz, .inl (cI, 3, .inl (zf ko kn kr))), (ys, .inl (cI, 2000, .inl S)), (yg, .inl (cB, 32000, .inl G)), (yf, .inl (cB, 2112, .inl F)), (yw, .inl (cI, 16, .inl V)), (yh, .inl (cI, 4, .inl H)), (yn, .inl (cI, 64, .inl KN)), (yt, .inl (cI, 16, .inl KT))]) (As := [.int (nI (2000 + p)), .int (nI uS)]) (n := 2) (st := []) (q0 := 0) X (m_sumOf l D cI cB m0 yb yz ye ys yg yf yh yw yn yt yl dz sz wz bz uS uW mr ml mw ma tz B f p (2000 + p) uS (by omega) (fun j hj => by rw [show 2000 + p + j = 2000 + (p + j) by omega]; exact hBy (p + j) (by omega))) rfl rfl ml_X5_139 im_X5_sumOf se_X5_sumOf ini_X5 co_X5_sumOf (by decide +kernel) rfl ⟨Nat.le_of_ble_eq_true rfl, Nat.le_of_ble_eq_true rfl⟩ (⟨by (try dsimp only); omega, by (try dsimp only); omega⟩) (Nat.le_of_ble_eq_true rfl) [0, 1] [2, 3, 4, 5, 6, 7, 8, 9] rfl rfl rfl (by decide) (by decide) (by decide) rfl dX5_blockAt_27 (fun v_27 u_27 hu_27 => ?_)
    obtain ⟨rfl, rfl⟩ := hu_27
    refine k_to (ws' := [(yz, .inl (cI, 3, .inl (zf ko kn kr))), (ys, .inl (cI, 2000, .inl S)), (yg, .inl (cB, 32000, .inl G)), (yf, .inl (cB, 2112, .inl F)), (yw, .inl (cI, 16, .inl V)), (yh, .inl (cI, 4, .inl H)), (yn, .inl (cI, 64, .inl KN)), (yt, .inl (cI, 16, .inl KT)), (m0, .inr (5, [.ref yb, .ref yz, .ref ye, .int (nI dz), .int (nI sz), .int (nI wz), .int (nI bz), .int (nI uS), .int (nI uW), .ref ys, .ref yg, .int (nI mr), .int (nI ml), .int (nI mw), .int (nI ma), .ref yf, .ref yh, .ref yw, .ref yn, .ref yt, .ref yl, .int (nI tz)])), (yb, .inl (cB, 6000, .inl B))]) (st' := [.int (sSum f p uS)]) rfl rfl ?_
    refine k_istore_n (lv' := [(3, .int (sSum f p uS)), (0, .ref m0), (1, .int (nI p)), (2, .int wn)]) X dX5_blockAt_30 rfl (by decide) rfl ?_
    refine k_iconst (v := 0) X dX5_blockAt_31 (by decide) ?_
    refine k_istore (lv' := [(4, .int 0), (3, .int (sSum f p uS)), (0, .ref m0), (1, .int (nI p)), (2, .int wn)]) X dX5_blockAt_32 (by decide) rfl ?_
    refine k_iconst (v := -1) X dX5_blockAt_34 (by decide) ?_
    refine k_as (y := cN (pD S G (mDig f p uS) uW (sSum f p uS)) 0 0) ((cN_ge (Nat.le_refl 0)).symm) ?_
    refine k_istore (lv' := [(5, .int (cN (pD S G (mDig f p uS) uW (sSum f p uS)) 0 0)), (4, .int 0), (3, .int (sSum f p uS)), (0, .ref m0), (1, .int (nI p)), (2, .int wn)]) X dX5_blockAt_35 (by decide) rfl ?_
    refine k_iconst (v := 0) X dX5_blockAt_37 (by decide) ?_
    refine k_istore (lv' := [(6, .int 0), (5, .int (cN (pD S G (mDig f p uS) uW (sSum f p uS)) 0 0)), (4, .int 0), (3, .int (sSum f p uS)), (0, .ref m0), (1, .int (nI p)), (2, .int wn)]) X dX5_blockAt_38 (by decide) rfl ?_
    refine k_lv (lv' := [(0, .ref m0), (1, .int (nI p)), (2, .int wn), (3, .int (sSum f p uS)), (4, .int (b2i false)), (5, .int (cN (pD S G (mDig f p uS) uW (sSum f p uS)) 0 0)), (6, .int (nI 0))]) [4, 5, 6, 3, 2, 1, 0] rfl ?_
    refine k_sub (ws' := [(m0, .inr (5, [.ref yb, .ref yz, .ref ye, .int (nI dz), .int (nI sz), .int (nI wz), .int (nI bz), .int (nI uS), .int (nI uW), .ref ys, .ref yg, .int (nI mr), .int (nI ml), .int (nI mw), .int (nI ma), .ref yf, .ref yh, .ref yw, .ref yn, .ref yt, .ref yl, .int (nI tz)])), (yb, .inl (cB, 6000, .inl B)), (yz, .inl (cI, 3, .inl (zf ko kn kr))), (ys, .inl (cI, 2000, .inl S)), (yg, .inl (cB, 32000, .inl G)), (yf, .inl (cB, 2112, .inl F)), (yw, .inl (cI, 16, .inl V)), (yh, .inl (cI, 4, .inl H)), (yn, .inl (cI, 64, .inl KN)), (yt, .inl (cI, 16, .inl KT))]) [8, 9, 0, 1, 2, 3, 4, 5, 6, 7] (by decide) rfl rfl ?_
    refine k_wide (k := 0) (n := 0) (by (try dsimp only); omega) (by (try dsimp only); omega) ?_
    refine k_loop5 (pc1 := 40) (cl := fun (k : Nat) (so : Bool) (F1 : Nat → Int32) (V1 : Nat → Int32) (H1 : Nat → Int32) => 0) (sl := fun (k : Nat) (so : Bool) (F1 : Nat → Int32) (V1 : Nat → Int32) (H1 : Nat → Int32) => 0) (wsf := fun (k : Nat) (so : Bool) (F1 : Nat → Int32) (V1 : Nat → Int32) (H1 : Nat → Int32) => [(m0, .inr (5, [.ref yb, .ref yz, .ref ye, .int (nI dz), .int (nI sz), .int (nI wz), .int (nI bz), .int (nI uS), .int (nI uW), .ref ys, .ref yg, .int (nI mr), .int (nI ml), .int (nI mw), .int (nI ma), .ref yf, .ref yh, .ref yw, .ref yn, .ref yt, .ref yl, .int (nI tz)])), (yb, .inl (cB, 6000, .inl B)), (yz, .inl (cI, 3, .inl (zf ko kn kr))), (ys, .inl (cI, 2000, .inl S)), (yg, .inl (cB, 32000, .inl G)), (yf, .inl (cB, 2112, .inl F1)), (yw, .inl (cI, 16, .inl V1)), (yh, .inl (cI, 4, .inl H1)), (yn, .inl (cI, 64, .inl KN)), (yt, .inl (cI, 16, .inl KT))]) (lvf := fun (k : Nat) (so : Bool) (F1 : Nat → Int32) (V1 : Nat → Int32) (H1 : Nat → Int32) => [(0, .ref m0), (1, .int (nI p)), (2, .int wn), (3, .int (sSum f p uS)), (4, .int (b2i so)), (5, .int (cN (pD S G (mDig f p uS) uW (sSum f p uS)) k 0)), (6, .int (nI k))]) (stf := fun (k : Nat) (so : Bool) (F1 : Nat → Int32) (V1 : Nat → Int32) (H1 : Nat → Int32) => []) (I := fun (k : Nat) (so : Bool) (F1 : Nat → Int32) (V1 : Nat → Int32) (H1 : Nat → Int32) => k ≤ bz ∧ (so = true ↔ ¬ cN (pS S (sSum f p uS)) k 0 = -1) ∧ (so = true → ∀ j, j < 4 → H1 j = (mDig f p uS) j) ∧ ∀ b, b < k → nI b = wn → (pD S G (mDig f p uS) uW (sSum f p uS)) b = false) (mu := fun (k : Nat) (so : Bool) (F1 : Nat → Int32) (V1 : Nat → Int32) (H1 : Nat → Int32) => bz - k) ?_ 0 false F V H (⟨Nat.zero_le _, ⟨fun z => absurd z (by decide), fun z => absurd (cN_ge (Nat.le_refl 0)) z⟩, fun z => absurd z (by decide), fun b hb => absurd hb (Nat.not_lt_zero b)⟩)
    intro k so F1 V1 H1 hI ih
    try dsimp only at hI ih
    try dsimp only
    have hi := hI.1
    refine k_iload X dX5_blockAt_40 6 rfl ?_
    refine k_aload_n X dX5_blockAt_42 rfl 0 rfl ?_
    refine k_get (v := .int (nI bz)) X 0 5 6 rfl rfl (by decide) fl_X5_136 in_X5 rfl rfl dX5_blockAt_43 ?_
    refine k_icmp_ge (tgt := 120) (xi := ((k : Nat) : Int)) (yi := ((bz : Nat) : Int)) X (nI_toInt (by omega)) (nI_toInt (by omega)) dX5_blockAt_46 (by decide) (fun c_46 => ?_) (fun c_46 => ?_)
    · obtain rfl : bz = k := by omega
      have hfn : fnd S G (mDig f p uS) bz uW (sSum f p uS) wn = cN (pD S G (mDig f p uS) uW (sSum f p uS)) bz 0 := fnd_l hI.2.2.2
      refine k_aload_n X dX5_blockAt_120 rfl 0 rfl ?_
      refine k_dup X dX5_blockAt_121 rfl ?_
      refine k_get (v := .int (nI ma)) X 0 5 14 rfl rfl (by decide) fl_X5_154 in_X5 rfl rfl dX5_blockAt_122 ?_
      refine k_iload X dX5_blockAt_125 4 rfl ?_
      by_cases hso : so = true
      · refine k_as (y := 1) (by rw [hso]; rfl) ?_
        refine k_if_eq (tgt := 140) (xi := (1 : Int)) X (by decide) dX5_blockAt_127 (by decide) (fun c_127 => ?_) (fun c_127 => ?_)
        · exact absurd c_127 (by decide)
        · refine k_iload X dX5_blockAt_130 5 rfl ?_
          refine k_iconst (v := -1) X dX5_blockAt_132 (by decide) ?_
          refine k_icmp_ne (tgt := 140) (xi := (cN (pD S G (mDig f p uS) uW (sSum f p uS)) bz 0).toInt) (yi := (-1 : Int)) X (rfl) (by decide) dX5_blockAt_133 (by decide) (fun c_133 => ?_) (fun c_133 => ?_)
          · refine k_iconst (v := 0) X dX5_blockAt_140 (by decide) ?_
            refine k_iadd X dX5_blockAt_141 ?_
            refine k_as (y := nI (ma + (if ¬ cN (pS S (sSum f p uS)) bz 0 = -1 ∧ fnd S G (mDig f p uS) bz uW (sSum f p uS) wn = -1 then 1 else 0))) (by rw [if_neg (fun z => c_133 (by rw [← hfn, z.2]; decide))]; exact nI_add ma 0) ?_
            refine k_put (v := .int (nI (ma + (if ¬ cN (pS S (sSum f p uS)) bz 0 = -1 ∧ fnd S G (mDig f p uS) bz uW (sSum f p uS) wn = -1 then 1 else 0)))) (ty := .int) (ws' := [(m0, .inr (5, [.ref yb, .ref yz, .ref ye, .int (nI dz), .int (nI sz), .int (nI wz), .int (nI bz), .int (nI uS), .int (nI uW), .ref ys, .ref yg, .int (nI mr), .int (nI ml), .int (nI mw), .int (nI (ma + (if ¬ cN (pS S (sSum f p uS)) bz 0 = -1 ∧ fnd S G (mDig f p uS) bz uW (sSum f p uS) wn = -1 then 1 else 0))), .ref yf, .ref yh, .ref yw, .ref yn, .ref yt, .ref yl, .int (nI tz)])), (yb, .inl (cB, 6000, .inl B)), (yz, .inl (cI, 3, .inl (zf ko kn kr))), (ys, .inl (cI, 2000, .inl S)), (yg, .inl (cB, 32000, .inl G)), (yf, .inl (cB, 2112, .inl F1)), (yw, .inl (cI, 16, .inl V1)), (yh, .inl (cI, 4, .inl H1)), (yn, .inl (cI, 64, .inl KN)), (yt, .inl (cI, 16, .inl KT))]) X 0 5 14 tyX5 tyX5_ok nmX5 rfl rfl (by decide) fl_X5_154 in_X5 rfl rfl (by decide +kernel) rfl rfl (Nat.le_of_ble_eq_true rfl) rfl dX5_blockAt_142 ?_
            refine k_iload X dX5_blockAt_145 5 rfl ?_
            exact k_iret (u := [(m0, .inr (5, [.ref yb, .ref yz, .ref ye, .int (nI dz), .int (nI sz), .int (nI wz), .int (nI bz), .int (nI uS), .int (nI uW), .ref ys, .ref yg, .int (nI mr), .int (nI ml), .int (nI mw), .int (nI (ma + (if ¬ cN (pS S (sSum f p uS)) bz 0 = -1 ∧ fnd S G (mDig f p uS) bz uW (sSum f p uS) wn = -1 then 1 else 0))), .ref yf, .ref yh, .ref yw, .ref yn, .ref yt, .ref yl, .int (nI tz)])), (yb, .inl (cB, 6000, .inl B)), (yz, .inl (cI, 3, .inl (zf ko kn kr))), (ys, .inl (cI, 2000, .inl S)), (yg, .inl (cB, 32000, .inl G)), (yf, .inl (cB, 2112, .inl F1)), (yw, .inl (cI, 16, .inl V1)), (yh, .inl (cI, 4, .inl H1)), (yn, .inl (cI, 64, .inl KN)), (yt, .inl (cI, 16, .inl KT))]) X hr [0, 1, 2, 3, 4, 5, 6, 7, 8, 9] (by decide) rfl rfl (⟨F1, V1, H1, by rw [hfn], rfl⟩) (by (try dsimp only); omega) (by (try dsimp only); omega) dX5_blockAt_147
          · refine k_iconst (v := 1) X dX5_blockAt_136 (by decide) ?_
            refine k_goto (tgt := 141) X dX5_blockAt_137 (by decide) ?_
            refine k_iadd X dX5_blockAt_141 ?_
            refine k_as (y := nI (ma + (if ¬ cN (pS S (sSum f p uS)) bz 0 = -1 ∧ fnd S G (mDig f p uS) bz uW (sSum f p uS) wn = -1 then 1 else 0))) (by rw [if_pos ⟨hI.2.1.mp hso, hfn.trans (Int32.toInt_inj.mp (c_133.trans (by decide)))⟩]; exact nI_1 _) ?_
            refine k_put (v := .int (nI (ma + (if ¬ cN (pS S (sSum f p uS)) bz 0 = -1 ∧ fnd S G (mDig f p uS) bz uW (sSum f p uS) wn = -1 then 1 else 0)))) (ty := .int) (ws' := [(m0, .inr (5, [.ref yb, .ref yz, .ref ye, .int (nI dz), .int (nI sz), .int (nI wz), .int (nI bz), .int (nI uS), .int (nI uW), .ref ys, .ref yg, .int (nI mr), .int (nI ml), .int (nI mw), .int (nI (ma + (if ¬ cN (pS S (sSum f p uS)) bz 0 = -1 ∧ fnd S G (mDig f p uS) bz uW (sSum f p uS) wn = -1 then 1 else 0))), .ref yf, .ref yh, .ref yw, .ref yn, .ref yt, .ref yl, .int (nI tz)])), (yb, .inl (cB, 6000, .inl B)), (yz, .inl (cI, 3, .inl (zf ko kn kr))), (ys, .inl (cI, 2000, .inl S)), (yg, .inl (cB, 32000, .inl G)), (yf, .inl (cB, 2112, .inl F1)), (yw, .inl (cI, 16, .inl V1)), (yh, .inl (cI, 4, .inl H1)), (yn, .inl (cI, 64, .inl KN)), (yt, .inl (cI, 16, .inl KT))]) X 0 5 14 tyX5 tyX5_ok nmX5 rfl rfl (by decide) fl_X5_154 in_X5 rfl rfl (by decide +kernel) rfl rfl (Nat.le_of_ble_eq_true rfl) rfl dX5_blockAt_142 ?_
            refine k_iload X dX5_blockAt_145 5 rfl ?_
            exact k_iret (u := [(m0, .inr (5, [.ref yb, .ref yz, .ref ye, .int (nI dz), .int (nI sz), .int (nI wz), .int (nI bz), .int (nI uS), .int (nI uW), .ref ys, .ref yg, .int (nI mr), .int (nI ml), .int (nI mw), .int (nI (ma + (if ¬ cN (pS S (sSum f p uS)) bz 0 = -1 ∧ fnd S G (mDig f p uS) bz uW (sSum f p uS) wn = -1 then 1 else 0))), .ref yf, .ref yh, .ref yw, .ref yn, .ref yt, .ref yl, .int (nI tz)])), (yb, .inl (cB, 6000, .inl B)), (yz, .inl (cI, 3, .inl (zf ko kn kr))), (ys, .inl (cI, 2000, .inl S)), (yg, .inl (cB, 32000, .inl G)), (yf, .inl (cB, 2112, .inl F1)), (yw, .inl (cI, 16, .inl V1)), (yh, .inl (cI, 4, .inl H1)), (yn, .inl (cI, 64, .inl KN)), (yt, .inl (cI, 16, .inl KT))]) X hr [0, 1, 2, 3, 4, 5, 6, 7, 8, 9] (by decide) rfl rfl (⟨F1, V1, H1, by rw [hfn], rfl⟩) (by (try dsimp only); omega) (by (try dsimp only); omega) dX5_blockAt_147
      · refine k_as (y := 0) (by rw [Bool.eq_false_iff.mpr hso]; rfl) ?_
        refine k_if_eq (tgt := 140) (xi := (0 : Int)) X (by decide) dX5_blockAt_127 (by decide) (fun c_127 => ?_) (fun c_127 => ?_)
        · refine k_iconst (v := 0) X dX5_blockAt_140 (by decide) ?_
          refine k_iadd X dX5_blockAt_141 ?_
          refine k_as (y := nI (ma + (if ¬ cN (pS S (sSum f p uS)) bz 0 = -1 ∧ fnd S G (mDig f p uS) bz uW (sSum f p uS) wn = -1 then 1 else 0))) (by rw [if_neg (fun z => hso (hI.2.1.mpr z.1))]; exact nI_add ma 0) ?_
          refine k_put (v := .int (nI (ma + (if ¬ cN (pS S (sSum f p uS)) bz 0 = -1 ∧ fnd S G (mDig f p uS) bz uW (sSum f p uS) wn = -1 then 1 else 0)))) (ty := .int) (ws' := [(m0, .inr (5, [.ref yb, .ref yz, .ref ye, .int (nI dz), .int (nI sz), .int (nI wz), .int (nI bz), .int (nI uS), .int (nI uW), .ref ys, .ref yg, .int (nI mr), .int (nI ml), .int (nI mw), .int (nI (ma + (if ¬ cN (pS S (sSum f p uS)) bz 0 = -1 ∧ fnd S G (mDig f p uS) bz uW (sSum f p uS) wn = -1 then 1 else 0))), .ref yf, .ref yh, .ref yw, .ref yn, .ref yt, .ref yl, .int (nI tz)])), (yb, .inl (cB, 6000, .inl B)), (yz, .inl (cI, 3, .inl (zf ko kn kr))), (ys, .inl (cI, 2000, .inl S)), (yg, .inl (cB, 32000, .inl G)), (yf, .inl (cB, 2112, .inl F1)), (yw, .inl (cI, 16, .inl V1)), (yh, .inl (cI, 4, .inl H1)), (yn, .inl (cI, 64, .inl KN)), (yt, .inl (cI, 16, .inl KT))]) X 0 5 14 tyX5 tyX5_ok nmX5 rfl rfl (by decide) fl_X5_154 in_X5 rfl rfl (by decide +kernel) rfl rfl (Nat.le_of_ble_eq_true rfl) rfl dX5_blockAt_142 ?_
          refine k_iload X dX5_blockAt_145 5 rfl ?_
          exact k_iret (u := [(m0, .inr (5, [.ref yb, .ref yz, .ref ye, .int (nI dz), .int (nI sz), .int (nI wz), .int (nI bz), .int (nI uS), .int (nI uW), .ref ys, .ref yg, .int (nI mr), .int (nI ml), .int (nI mw), .int (nI (ma + (if ¬ cN (pS S (sSum f p uS)) bz 0 = -1 ∧ fnd S G (mDig f p uS) bz uW (sSum f p uS) wn = -1 then 1 else 0))), .ref yf, .ref yh, .ref yw, .ref yn, .ref yt, .ref yl, .int (nI tz)])), (yb, .inl (cB, 6000, .inl B)), (yz, .inl (cI, 3, .inl (zf ko kn kr))), (ys, .inl (cI, 2000, .inl S)), (yg, .inl (cB, 32000, .inl G)), (yf, .inl (cB, 2112, .inl F1)), (yw, .inl (cI, 16, .inl V1)), (yh, .inl (cI, 4, .inl H1)), (yn, .inl (cI, 64, .inl KN)), (yt, .inl (cI, 16, .inl KT))]) X hr [0, 1, 2, 3, 4, 5, 6, 7, 8, 9] (by decide) rfl rfl (⟨F1, V1, H1, by rw [hfn], rfl⟩) (by (try dsimp only); omega) (by (try dsimp only); omega) dX5_blockAt_147
        · exact absurd c_127 (by decide)
    · refine k_aload_n X dX5_blockAt_49 rfl 0 rfl ?_
      refine k_get (v := .ref ys) X 0 5 9 rfl rfl (by decide) fl_X5_33 in_X5 rfl rfl dX5_blockAt_50 ?_
      refine k_iload X dX5_blockAt_53 6 rfl ?_
      refine k_iald (v := S k) X 3 rfl (vp_in_nI (n := k) (by omega) (by omega)) (by rw [nI_clamp (n := k) (by omega)]) dX5_blockAt_55 ?_
      refine k_iload_n X dX5_blockAt_56 rfl 3 rfl ?_
      refine k_icmp_ne (tgt := 114) (xi := (S k).toInt) (yi := (sSum f p uS).toInt) X (rfl) (rfl) dX5_blockAt_57 (by decide) (fun c_57 => ?_) (fun c_57 => ?_)
      · have hps : (pS S (sSum f p uS)) k = false := decide_eq_false (fun z => c_57 (congrArg Int32.toInt z))
        refine k_lvx (lv' := [(0, .ref m0), (1, .int (nI p)), (2, .int wn), (3, .int (sSum f p uS)), (4, .int (b2i so)), (5, .int (cN (pD S G (mDig f p uS) uW (sSum f p uS)) (k + 1) 0)), (6, .int (nI k))]) (by rw [cN_same (P := (pD S G (mDig f p uS) uW (sSum f p uS))) (by omega) (pD_of_pS hps)]) ?_
        refine k_iinc (v := nI (k + 1)) (lv' := [(6, .int (nI (k + 1))), (0, .ref m0), (1, .int (nI p)), (2, .int wn), (3, .int (sSum f p uS)), (4, .int (b2i so)), (5, .int (cN (pD S G (mDig f p uS) uW (sSum f p uS)) (k + 1) 0))]) X dX5_blockAt_114 6 rfl (nI_1 _) (by decide) rfl ?_
        refine k_goto (tgt := 40) X dX5_blockAt_117 (by decide) ?_
        refine k_lv (lv' := [(0, .ref m0), (1, .int (nI p)), (2, .int wn), (3, .int (sSum f p uS)), (4, .int (b2i so)), (5, .int (cN (pD S G (mDig f p uS) uW (sSum f p uS)) (k + 1) 0)), (6, .int (nI (k + 1)))]) [1, 2, 3, 4, 5, 6, 0] rfl ?_
        refine k_sub (ws' := [(m0, .inr (5, [.ref yb, .ref yz, .ref ye, .int (nI dz), .int (nI sz), .int (nI wz), .int (nI bz), .int (nI uS), .int (nI uW), .ref ys, .ref yg, .int (nI mr), .int (nI ml), .int (nI mw), .int (nI ma), .ref yf, .ref yh, .ref yw, .ref yn, .ref yt, .ref yl, .int (nI tz)])), (yb, .inl (cB, 6000, .inl B)), (yz, .inl (cI, 3, .inl (zf ko kn kr))), (ys, .inl (cI, 2000, .inl S)), (yg, .inl (cB, 32000, .inl G)), (yf, .inl (cB, 2112, .inl F1)), (yw, .inl (cI, 16, .inl V1)), (yh, .inl (cI, 4, .inl H1)), (yn, .inl (cI, 64, .inl KN)), (yt, .inl (cI, 16, .inl KT))]) [0, 1, 2, 3, 4, 5, 6, 7, 8, 9] (by decide) rfl rfl ?_
        refine k_wide (k := 0) (n := 0) (by (try dsimp only); omega) (by (try dsimp only); omega) ?_
        exact ih (k + 1) so F1 V1 H1 (⟨by omega, by rw [cN_same (P := (pS S (sSum f p uS))) (by omega) hps]; exact hI.2.1, hI.2.2.1, lt_s hI.2.2.2 (fun _ => pD_of_pS hps)⟩) (by omega)
      · have hps : (pS S (sSum f p uS)) k = true := decide_eq_true (Int32.toInt_inj.mp c_57)
        refine k_iload X dX5_blockAt_60 4 rfl ?_
        by_cases hso : so = true
        · refine k_as (y := 1) (by rw [hso]; rfl) ?_
          have hHd := hI.2.2.1 hso
          refine k_if_ne (tgt := 78) (xi := (1 : Int)) X (by decide) dX5_blockAt_62 (by decide) (fun c_62 => ?_) (fun c_62 => ?_)
          · refine k_iconst (v := 1) X dX5_blockAt_78 (by decide) ?_
            refine k_istore (lv' := [(4, .int 1), (0, .ref m0), (1, .int (nI p)), (2, .int wn), (3, .int (sSum f p uS)), (5, .int (cN (pD S G (mDig f p uS) uW (sSum f p uS)) k 0)), (6, .int (nI k))]) X dX5_blockAt_79 (by decide) rfl ?_
            refine k_aload_n X dX5_blockAt_81 rfl 1 rfl ?_
            refine k_iload X dX5_blockAt_82 6 rfl ?_
            refine k_callV (wc := [(m0, .inr (5, [.ref yb, .ref yz, .ref ye, .int (nI dz), .int (nI sz), .int (nI wz), .int (nI bz), .int (nI uS), .int (nI uW), .ref ys, .ref yg, .int (nI mr), .int (nI ml), .int (nI mw), .int (nI ma), .ref yf, .ref yh, .ref yw, .ref yn, .ref yt, .ref yl, .int (nI tz)])), (yg, .inl (cB, 32000, .inl G)), (yh, .inl (cI, 4, .inl H1))]) (wr := [(yb, .inl (cB, 6000, .inl B)), (yz, .inl (cI, 3, .inl (zf ko kn kr))), (ys, .inl (cI, 2000, .inl S)), (yf, .inl (cB, 2112, .inl F1)), (yw, .inl (cI, 16, .inl V1)), (yn, .inl (cI, 64, .inl KN)), (yt, .inl (cI, 16, .inl KT))]) (As := [.int (nI k)]) (n := 1) (st := []) (q0 := 0) X (m_isDigest l D cI cB m0 yb yz ye ys yg yf yh yw yn yt yl dz sz wz bz uS uW mr ml mw ma tz G H1 k (by omega) (hw)) rfl rfl ml_X5_151 im_X5_isDigest se_X5_isDigest ini_X5 co_X5_isDigest (by decide +kernel) rfl ⟨Nat.le_of_ble_eq_true rfl, Nat.le_of_ble_eq_true rfl⟩ (⟨by (try dsimp only); omega, by (try dsimp only); omega⟩) (Nat.le_of_ble_eq_true rfl) [0, 4, 7] [1, 2, 3, 5, 6, 8, 9] rfl rfl rfl (by decide) (by decide) (by decide) rfl dX5_blockAt_84 (fun v_84 u_84 hu_84 => ?_)
            obtain ⟨rfl, rfl⟩ := hu_84
            refine k_to (ws' := [(yb, .inl (cB, 6000, .inl B)), (yz, .inl (cI, 3, .inl (zf ko kn kr))), (ys, .inl (cI, 2000, .inl S)), (yf, .inl (cB, 2112, .inl F1)), (yw, .inl (cI, 16, .inl V1)), (yn, .inl (cI, 64, .inl KN)), (yt, .inl (cI, 16, .inl KT)), (m0, .inr (5, [.ref yb, .ref yz, .ref ye, .int (nI dz), .int (nI sz), .int (nI wz), .int (nI bz), .int (nI uS), .int (nI uW), .ref ys, .ref yg, .int (nI mr), .int (nI ml), .int (nI mw), .int (nI ma), .ref yf, .ref yh, .ref yw, .ref yn, .ref yt, .ref yl, .int (nI tz)])), (yg, .inl (cB, 32000, .inl G)), (yh, .inl (cI, 4, .inl H1))]) (st' := [.int (b2i (hB G H1 uW k))]) rfl rfl ?_
            by_cases hd0 : hB G (mDig f p uS) uW k = true
            · refine k_as (y := 1) (by rw [hB_congr hw hHd, hd0]; rfl) ?_
              refine k_if_eq (tgt := 114) (xi := (1 : Int)) X (by decide) dX5_blockAt_87 (by decide) (fun c_87 => ?_) (fun c_87 => ?_)
              · exact absurd c_87 (by decide)
              · refine k_iload X dX5_blockAt_90 6 rfl ?_
                refine k_iload_n X dX5_blockAt_92 rfl 3 rfl ?_
                refine k_icmp_ne (tgt := 99) (xi := ((k : Nat) : Int)) (yi := wn.toInt) X (nI_toInt (by omega)) (rfl) dX5_blockAt_93 (by decide) (fun c_93 => ?_) (fun c_93 => ?_)
                · refine k_iload X dX5_blockAt_99 5 rfl ?_
                  refine k_iconst (v := -1) X dX5_blockAt_101 (by decide) ?_
                  refine k_icmp_ne (tgt := 110) (xi := (cN (pD S G (mDig f p uS) uW (sSum f p uS)) k 0).toInt) (yi := (-1 : Int)) X (rfl) (by decide) dX5_blockAt_102 (by decide) (fun c_102 => ?_) (fun c_102 => ?_)
                  · refine k_iload X dX5_blockAt_110 5 rfl ?_
                    refine k_as (y := cN (pD S G (mDig f p uS) uW (sSum f p uS)) (k + 1) 0) (by rw [cN_snoc (pD S G (mDig f p uS) uW (sSum f p uS)) (by omega), if_neg (fun z => c_102 (by rw [z]; decide))]) ?_
                    refine k_istore (lv' := [(5, .int (cN (pD S G (mDig f p uS) uW (sSum f p uS)) (k + 1) 0)), (4, .int 1), (0, .ref m0), (1, .int (nI p)), (2, .int wn), (3, .int (sSum f p uS)), (6, .int (nI k))]) X dX5_blockAt_112 (by decide) rfl ?_
                    refine k_iinc (v := nI (k + 1)) (lv' := [(6, .int (nI (k + 1))), (5, .int (cN (pD S G (mDig f p uS) uW (sSum f p uS)) (k + 1) 0)), (4, .int 1), (0, .ref m0), (1, .int (nI p)), (2, .int wn), (3, .int (sSum f p uS))]) X dX5_blockAt_114 6 rfl (nI_1 _) (by decide) rfl ?_
                    refine k_goto (tgt := 40) X dX5_blockAt_117 (by decide) ?_
                    refine k_lv (lv' := [(0, .ref m0), (1, .int (nI p)), (2, .int wn), (3, .int (sSum f p uS)), (4, .int (b2i true)), (5, .int (cN (pD S G (mDig f p uS) uW (sSum f p uS)) (k + 1) 0)), (6, .int (nI (k + 1)))]) [3, 4, 5, 6, 2, 1, 0] rfl ?_
                    refine k_sub (ws' := [(m0, .inr (5, [.ref yb, .ref yz, .ref ye, .int (nI dz), .int (nI sz), .int (nI wz), .int (nI bz), .int (nI uS), .int (nI uW), .ref ys, .ref yg, .int (nI mr), .int (nI ml), .int (nI mw), .int (nI ma), .ref yf, .ref yh, .ref yw, .ref yn, .ref yt, .ref yl, .int (nI tz)])), (yb, .inl (cB, 6000, .inl B)), (yz, .inl (cI, 3, .inl (zf ko kn kr))), (ys, .inl (cI, 2000, .inl S)), (yg, .inl (cB, 32000, .inl G)), (yf, .inl (cB, 2112, .inl F1)), (yw, .inl (cI, 16, .inl V1)), (yh, .inl (cI, 4, .inl H1)), (yn, .inl (cI, 64, .inl KN)), (yt, .inl (cI, 16, .inl KT))]) [7, 0, 1, 2, 8, 3, 4, 9, 5, 6] (by decide) rfl rfl ?_
                    refine k_wide (k := 0) (n := 0) (by (try dsimp only); omega) (by (try dsimp only); omega) ?_
                    exact ih (k + 1) true F1 V1 H1 (⟨by omega, ⟨fun _ => cN_pos (P := (pS S (sSum f p uS))) (by omega) hps, fun _ => rfl⟩, fun _ => hHd, lt_s hI.2.2.2 (fun z => absurd (congrArg Int32.toInt z) (fun y => c_93 (by rw [← y, nI_toInt (by omega)])))⟩) (by omega)
                  · refine k_iload X dX5_blockAt_105 6 rfl ?_
                    refine k_goto (tgt := 112) X dX5_blockAt_107 (by decide) ?_
                    refine k_as (y := cN (pD S G (mDig f p uS) uW (sSum f p uS)) (k + 1) 0) (by rw [cN_snoc (pD S G (mDig f p uS) uW (sSum f p uS)) (by omega), if_pos (Int32.toInt_inj.mp (c_102.trans (by decide))), if_pos (pD_t (Int32.toInt_inj.mp c_57) hd0)]) ?_
                    refine k_istore (lv' := [(5, .int (cN (pD S G (mDig f p uS) uW (sSum f p uS)) (k + 1) 0)), (4, .int 1), (0, .ref m0), (1, .int (nI p)), (2, .int wn), (3, .int (sSum f p uS)), (6, .int (nI k))]) X dX5_blockAt_112 (by decide) rfl ?_
                    refine k_iinc (v := nI (k + 1)) (lv' := [(6, .int (nI (k + 1))), (5, .int (cN (pD S G (mDig f p uS) uW (sSum f p uS)) (k + 1) 0)), (4, .int 1), (0, .ref m0), (1, .int (nI p)), (2, .int wn), (3, .int (sSum f p uS))]) X dX5_blockAt_114 6 rfl (nI_1 _) (by decide) rfl ?_
                    refine k_goto (tgt := 40) X dX5_blockAt_117 (by decide) ?_
                    refine k_lv (lv' := [(0, .ref m0), (1, .int (nI p)), (2, .int wn), (3, .int (sSum f p uS)), (4, .int (b2i true)), (5, .int (cN (pD S G (mDig f p uS) uW (sSum f p uS)) (k + 1) 0)), (6, .int (nI (k + 1)))]) [3, 4, 5, 6, 2, 1, 0] rfl ?_
                    refine k_sub (ws' := [(m0, .inr (5, [.ref yb, .ref yz, .ref ye, .int (nI dz), .int (nI sz), .int (nI wz), .int (nI bz), .int (nI uS), .int (nI uW), .ref ys, .ref yg, .int (nI mr), .int (nI ml), .int (nI mw), .int (nI ma), .ref yf, .ref yh, .ref yw, .ref yn, .ref yt, .ref yl, .int (nI tz)])), (yb, .inl (cB, 6000, .inl B)), (yz, .inl (cI, 3, .inl (zf ko kn kr))), (ys, .inl (cI, 2000, .inl S)), (yg, .inl (cB, 32000, .inl G)), (yf, .inl (cB, 2112, .inl F1)), (yw, .inl (cI, 16, .inl V1)), (yh, .inl (cI, 4, .inl H1)), (yn, .inl (cI, 64, .inl KN)), (yt, .inl (cI, 16, .inl KT))]) [7, 0, 1, 2, 8, 3, 4, 9, 5, 6] (by decide) rfl rfl ?_
                    refine k_wide (k := 0) (n := 0) (by (try dsimp only); omega) (by (try dsimp only); omega) ?_
                    exact ih (k + 1) true F1 V1 H1 (⟨by omega, ⟨fun _ => cN_pos (P := (pS S (sSum f p uS))) (by omega) hps, fun _ => rfl⟩, fun _ => hHd, lt_s hI.2.2.2 (fun z => absurd (congrArg Int32.toInt z) (fun y => c_93 (by rw [← y, nI_toInt (by omega)])))⟩) (by omega)
                · refine k_iload X dX5_blockAt_96 6 rfl ?_
                  have hkw : nI k = wn := Int32.toInt_inj.mp (by rw [nI_toInt (by omega)]; exact c_93)
                  exact k_iret (u := [(m0, .inr (5, [.ref yb, .ref yz, .ref ye, .int (nI dz), .int (nI sz), .int (nI wz), .int (nI bz), .int (nI uS), .int (nI uW), .ref ys, .ref yg, .int (nI mr), .int (nI ml), .int (nI mw), .int (nI ma), .ref yf, .ref yh, .ref yw, .ref yn, .ref yt, .ref yl, .int (nI tz)])), (yb, .inl (cB, 6000, .inl B)), (yz, .inl (cI, 3, .inl (zf ko kn kr))), (ys, .inl (cI, 2000, .inl S)), (yg, .inl (cB, 32000, .inl G)), (yf, .inl (cB, 2112, .inl F1)), (yw, .inl (cI, 16, .inl V1)), (yh, .inl (cI, 4, .inl H1)), (yn, .inl (cI, 64, .inl KN)), (yt, .inl (cI, 16, .inl KT))]) X hr [7, 0, 1, 2, 8, 3, 4, 9, 5, 6] (by decide) rfl rfl (⟨F1, V1, H1, by rw [← hkw, fnd_w (by omega) hz (pD_t (Int32.toInt_inj.mp c_57) hd0)], by rw [← hkw, fnd_w (by omega) hz (pD_t (Int32.toInt_inj.mp c_57) hd0), if_neg (fun z => m1_ne (by omega) z.2)]; rfl⟩) (by (try dsimp only); omega) (by (try dsimp only); omega) dX5_blockAt_98
            · refine k_as (y := 0) (by rw [hB_congr hw hHd, Bool.eq_false_iff.mpr hd0]; rfl) ?_
              have hd1 := Bool.eq_false_iff.mpr hd0
              refine k_lvx (lv' := [(4, .int 1), (0, .ref m0), (1, .int (nI p)), (2, .int wn), (3, .int (sSum f p uS)), (5, .int (cN (pD S G (mDig f p uS) uW (sSum f p uS)) (k + 1) 0)), (6, .int (nI k))]) (by rw [cN_same (P := (pD S G (mDig f p uS) uW (sSum f p uS))) (by omega) (pD_f hd1)]) ?_
              refine k_if_eq (tgt := 114) (xi := (0 : Int)) X (by decide) dX5_blockAt_87 (by decide) (fun c_87 => ?_) (fun c_87 => ?_)
              · refine k_iinc (v := nI (k + 1)) (lv' := [(6, .int (nI (k + 1))), (4, .int 1), (0, .ref m0), (1, .int (nI p)), (2, .int wn), (3, .int (sSum f p uS)), (5, .int (cN (pD S G (mDig f p uS) uW (sSum f p uS)) (k + 1) 0))]) X dX5_blockAt_114 6 rfl (nI_1 _) (by decide) rfl ?_
                refine k_goto (tgt := 40) X dX5_blockAt_117 (by decide) ?_
                refine k_lv (lv' := [(0, .ref m0), (1, .int (nI p)), (2, .int wn), (3, .int (sSum f p uS)), (4, .int (b2i true)), (5, .int (cN (pD S G (mDig f p uS) uW (sSum f p uS)) (k + 1) 0)), (6, .int (nI (k + 1)))]) [2, 3, 4, 5, 1, 6, 0] rfl ?_
                refine k_sub (ws' := [(m0, .inr (5, [.ref yb, .ref yz, .ref ye, .int (nI dz), .int (nI sz), .int (nI wz), .int (nI bz), .int (nI uS), .int (nI uW), .ref ys, .ref yg, .int (nI mr), .int (nI ml), .int (nI mw), .int (nI ma), .ref yf, .ref yh, .ref yw, .ref yn, .ref yt, .ref yl, .int (nI tz)])), (yb, .inl (cB, 6000, .inl B)), (yz, .inl (cI, 3, .inl (zf ko kn kr))), (ys, .inl (cI, 2000, .inl S)), (yg, .inl (cB, 32000, .inl G)), (yf, .inl (cB, 2112, .inl F1)), (yw, .inl (cI, 16, .inl V1)), (yh, .inl (cI, 4, .inl H1)), (yn, .inl (cI, 64, .inl KN)), (yt, .inl (cI, 16, .inl KT))]) [7, 0, 1, 2, 8, 3, 4, 9, 5, 6] (by decide) rfl rfl ?_
                refine k_wide (k := 0) (n := 0) (by (try dsimp only); omega) (by (try dsimp only); omega) ?_
                exact ih (k + 1) true F1 V1 H1 (⟨by omega, ⟨fun _ => cN_pos (P := (pS S (sSum f p uS))) (by omega) hps, fun _ => rfl⟩, fun _ => hHd, lt_s hI.2.2.2 (fun _ => pD_f hd1)⟩) (by omega)
              · exact absurd c_87 (by decide)
          · exact absurd c_62 (by decide)
        · refine k_as (y := 0) (by rw [Bool.eq_false_iff.mpr hso]; rfl) ?_
          refine k_if_ne (tgt := 78) (xi := (0 : Int)) X (by decide) dX5_blockAt_62 (by decide) (fun c_62 => ?_) (fun c_62 => ?_)
          · exact absurd c_62 (by decide)
          · refine k_aload_n X dX5_blockAt_65 rfl 0 rfl ?_
            refine k_sipush (v := 2000) X dX5_blockAt_66 (by decide) ?_
            refine k_iload_n X dX5_blockAt_69 rfl 1 rfl ?_
            refine k_iadd X dX5_blockAt_70 ?_
            refine k_as (y := nI (2000 + p)) (nI_add 2000 p) ?_
            refine k_aload_n X dX5_blockAt_71 rfl 0 rfl ?_
            refine k_get (v := .int (nI uS)) X 0 5 7 rfl rfl (by decide) fl_X5_27 in_X5 rfl rfl dX5_blockAt_72 ?_
            refine k_callV (wc := [(m0, .inr (5, [.ref yb, .ref yz, .ref ye, .int (nI dz), .int (nI sz), .int (nI wz), .int (nI bz), .int (nI uS), .int (nI uW), .ref ys, .ref yg, .int (nI mr), .int (nI ml), .int (nI mw), .int (nI ma), .ref yf, .ref yh, .ref yw, .ref yn, .ref yt, .ref yl, .int (nI tz)])), (yb, .inl (cB, 6000, .inl B)), (yf, .inl (cB, 2112, .inl F1)), (yw, .inl (cI, 16, .inl V1)), (yh, .inl (cI, 4, .inl H1)), (yn, .inl (cI, 64, .inl KN)), (yt, .inl (cI, 16, .inl KT))]) (wr := [(yz, .inl (cI, 3, .inl (zf ko kn kr))), (ys, .inl (cI, 2000, .inl S)), (yg, .inl (cB, 32000, .inl G))]) (As := [.int (nI (2000 + p)), .int (nI uS)]) (n := 2) (st := []) (q0 := 0) X (m_digestOf l D cI cB m0 yb yz ye ys yg yf yh yw yn yt yl dz sz wz bz uS uW mr ml mw ma tz B F1 V1 H1 KN KT f p (2000 + p) uS (by omega) (by omega) (fun j hj => by rw [show 2000 + p + j = 2000 + (p + j) by omega]; exact hBy (p + j) (by omega)) (hKN) (hKT)) rfl rfl ml_X5_143 im_X5_digestOf se_X5_digestOf ini_X5 co_X5_digestOf (by decide +kernel) rfl ⟨Nat.le_of_ble_eq_true rfl, Nat.le_of_ble_eq_true rfl⟩ (⟨by (try dsimp only); omega, by (try dsimp only); omega⟩) (Nat.le_of_ble_eq_true rfl) [0, 1, 5, 6, 7, 8, 9] [2, 3, 4] rfl rfl rfl (by decide) (by decide) (by decide) rfl dX5_blockAt_75 (fun v_75 u_75 hu_75 => ?_)
            obtain ⟨F3, V3, H3, rfl, rfl, hHd⟩ := hu_75
            refine k_to (ws' := [(yz, .inl (cI, 3, .inl (zf ko kn kr))), (ys, .inl (cI, 2000, .inl S)), (yg, .inl (cB, 32000, .inl G)), (m0, .inr (5, [.ref yb, .ref yz, .ref ye, .int (nI dz), .int (nI sz), .int (nI wz), .int (nI bz), .int (nI uS), .int (nI uW), .ref ys, .ref yg, .int (nI mr), .int (nI ml), .int (nI mw), .int (nI ma), .ref yf, .ref yh, .ref yw, .ref yn, .ref yt, .ref yl, .int (nI tz)])), (yb, .inl (cB, 6000, .inl B)), (yf, .inl (cB, 2112, .inl F3)), (yw, .inl (cI, 16, .inl V3)), (yh, .inl (cI, 4, .inl H3)), (yn, .inl (cI, 64, .inl KN)), (yt, .inl (cI, 16, .inl KT))]) (st' := []) rfl rfl ?_
            refine k_iconst (v := 1) X dX5_blockAt_78 (by decide) ?_
            refine k_istore (lv' := [(4, .int 1), (0, .ref m0), (1, .int (nI p)), (2, .int wn), (3, .int (sSum f p uS)), (5, .int (cN (pD S G (mDig f p uS) uW (sSum f p uS)) k 0)), (6, .int (nI k))]) X dX5_blockAt_79 (by decide) rfl ?_
            refine k_aload_n X dX5_blockAt_81 rfl 1 rfl ?_
            refine k_iload X dX5_blockAt_82 6 rfl ?_
            refine k_callV (wc := [(m0, .inr (5, [.ref yb, .ref yz, .ref ye, .int (nI dz), .int (nI sz), .int (nI wz), .int (nI bz), .int (nI uS), .int (nI uW), .ref ys, .ref yg, .int (nI mr), .int (nI ml), .int (nI mw), .int (nI ma), .ref yf, .ref yh, .ref yw, .ref yn, .ref yt, .ref yl, .int (nI tz)])), (yg, .inl (cB, 32000, .inl G)), (yh, .inl (cI, 4, .inl H3))]) (wr := [(yz, .inl (cI, 3, .inl (zf ko kn kr))), (ys, .inl (cI, 2000, .inl S)), (yb, .inl (cB, 6000, .inl B)), (yf, .inl (cB, 2112, .inl F3)), (yw, .inl (cI, 16, .inl V3)), (yn, .inl (cI, 64, .inl KN)), (yt, .inl (cI, 16, .inl KT))]) (As := [.int (nI k)]) (n := 1) (st := []) (q0 := 0) X (m_isDigest l D cI cB m0 yb yz ye ys yg yf yh yw yn yt yl dz sz wz bz uS uW mr ml mw ma tz G H3 k (by omega) (hw)) rfl rfl ml_X5_151 im_X5_isDigest se_X5_isDigest ini_X5 co_X5_isDigest (by decide +kernel) rfl ⟨Nat.le_of_ble_eq_true rfl, Nat.le_of_ble_eq_true rfl⟩ (⟨by (try dsimp only); omega, by (try dsimp only); omega⟩) (Nat.le_of_ble_eq_true rfl) [3, 2, 7] [0, 1, 4, 5, 6, 8, 9] rfl rfl rfl (by decide) (by decide) (by decide) rfl dX5_blockAt_84 (fun v_84 u_84 hu_84 => ?_)
            obtain ⟨rfl, rfl⟩ := hu_84
            refine k_to (ws' := [(yz, .inl (cI, 3, .inl (zf ko kn kr))), (ys, .inl (cI, 2000, .inl S)), (yb, .inl (cB, 6000, .inl B)), (yf, .inl (cB, 2112, .inl F3)), (yw, .inl (cI, 16, .inl V3)), (yn, .inl (cI, 64, .inl KN)), (yt, .inl (cI, 16, .inl KT)), (m0, .inr (5, [.ref yb, .ref yz, .ref ye, .int (nI dz), .int (nI sz), .int (nI wz), .int (nI bz), .int (nI uS), .int (nI uW), .ref ys, .ref yg, .int (nI mr), .int (nI ml), .int (nI mw), .int (nI ma), .ref yf, .ref yh, .ref yw, .ref yn, .ref yt, .ref yl, .int (nI tz)])), (yg, .inl (cB, 32000, .inl G)), (yh, .inl (cI, 4, .inl H3))]) (st' := [.int (b2i (hB G H3 uW k))]) rfl rfl ?_
            by_cases hd0 : hB G (mDig f p uS) uW k = true
            · refine k_as (y := 1) (by rw [hB_congr hw hHd, hd0]; rfl) ?_
              refine k_if_eq (tgt := 114) (xi := (1 : Int)) X (by decide) dX5_blockAt_87 (by decide) (fun c_87 => ?_) (fun c_87 => ?_)
              · exact absurd c_87 (by decide)
              · refine k_iload X dX5_blockAt_90 6 rfl ?_
                refine k_iload_n X dX5_blockAt_92 rfl 3 rfl ?_
                refine k_icmp_ne (tgt := 99) (xi := ((k : Nat) : Int)) (yi := wn.toInt) X (nI_toInt (by omega)) (rfl) dX5_blockAt_93 (by decide) (fun c_93 => ?_) (fun c_93 => ?_)
                · refine k_iload X dX5_blockAt_99 5 rfl ?_
                  refine k_iconst (v := -1) X dX5_blockAt_101 (by decide) ?_
                  refine k_icmp_ne (tgt := 110) (xi := (cN (pD S G (mDig f p uS) uW (sSum f p uS)) k 0).toInt) (yi := (-1 : Int)) X (rfl) (by decide) dX5_blockAt_102 (by decide) (fun c_102 => ?_) (fun c_102 => ?_)
                  · refine k_iload X dX5_blockAt_110 5 rfl ?_
                    refine k_as (y := cN (pD S G (mDig f p uS) uW (sSum f p uS)) (k + 1) 0) (by rw [cN_snoc (pD S G (mDig f p uS) uW (sSum f p uS)) (by omega), if_neg (fun z => c_102 (by rw [z]; decide))]) ?_
                    refine k_istore (lv' := [(5, .int (cN (pD S G (mDig f p uS) uW (sSum f p uS)) (k + 1) 0)), (4, .int 1), (0, .ref m0), (1, .int (nI p)), (2, .int wn), (3, .int (sSum f p uS)), (6, .int (nI k))]) X dX5_blockAt_112 (by decide) rfl ?_
                    refine k_iinc (v := nI (k + 1)) (lv' := [(6, .int (nI (k + 1))), (5, .int (cN (pD S G (mDig f p uS) uW (sSum f p uS)) (k + 1) 0)), (4, .int 1), (0, .ref m0), (1, .int (nI p)), (2, .int wn), (3, .int (sSum f p uS))]) X dX5_blockAt_114 6 rfl (nI_1 _) (by decide) rfl ?_
                    refine k_goto (tgt := 40) X dX5_blockAt_117 (by decide) ?_
                    refine k_lv (lv' := [(0, .ref m0), (1, .int (nI p)), (2, .int wn), (3, .int (sSum f p uS)), (4, .int (b2i true)), (5, .int (cN (pD S G (mDig f p uS) uW (sSum f p uS)) (k + 1) 0)), (6, .int (nI (k + 1)))]) [3, 4, 5, 6, 2, 1, 0] rfl ?_
                    refine k_sub (ws' := [(m0, .inr (5, [.ref yb, .ref yz, .ref ye, .int (nI dz), .int (nI sz), .int (nI wz), .int (nI bz), .int (nI uS), .int (nI uW), .ref ys, .ref yg, .int (nI mr), .int (nI ml), .int (nI mw), .int (nI ma), .ref yf, .ref yh, .ref yw, .ref yn, .ref yt, .ref yl, .int (nI tz)])), (yb, .inl (cB, 6000, .inl B)), (yz, .inl (cI, 3, .inl (zf ko kn kr))), (ys, .inl (cI, 2000, .inl S)), (yg, .inl (cB, 32000, .inl G)), (yf, .inl (cB, 2112, .inl F3)), (yw, .inl (cI, 16, .inl V3)), (yh, .inl (cI, 4, .inl H3)), (yn, .inl (cI, 64, .inl KN)), (yt, .inl (cI, 16, .inl KT))]) [7, 2, 0, 1, 8, 3, 4, 9, 5, 6] (by decide) rfl rfl ?_
                    refine k_wide (k := 0) (n := 0) (by (try dsimp only); omega) (by (try dsimp only); omega) ?_
                    exact ih (k + 1) true F3 V3 H3 (⟨by omega, ⟨fun _ => cN_pos (P := (pS S (sSum f p uS))) (by omega) hps, fun _ => rfl⟩, fun _ => hHd, lt_s hI.2.2.2 (fun z => absurd (congrArg Int32.toInt z) (fun y => c_93 (by rw [← y, nI_toInt (by omega)])))⟩) (by omega)
                  · refine k_iload X dX5_blockAt_105 6 rfl ?_
                    refine k_goto (tgt := 112) X dX5_blockAt_107 (by decide) ?_
                    refine k_as (y := cN (pD S G (mDig f p uS) uW (sSum f p uS)) (k + 1) 0) (by rw [cN_snoc (pD S G (mDig f p uS) uW (sSum f p uS)) (by omega), if_pos (Int32.toInt_inj.mp (c_102.trans (by decide))), if_pos (pD_t (Int32.toInt_inj.mp c_57) hd0)]) ?_
                    refine k_istore (lv' := [(5, .int (cN (pD S G (mDig f p uS) uW (sSum f p uS)) (k + 1) 0)), (4, .int 1), (0, .ref m0), (1, .int (nI p)), (2, .int wn), (3, .int (sSum f p uS)), (6, .int (nI k))]) X dX5_blockAt_112 (by decide) rfl ?_
                    refine k_iinc (v := nI (k + 1)) (lv' := [(6, .int (nI (k + 1))), (5, .int (cN (pD S G (mDig f p uS) uW (sSum f p uS)) (k + 1) 0)), (4, .int 1), (0, .ref m0), (1, .int (nI p)), (2, .int wn), (3, .int (sSum f p uS))]) X dX5_blockAt_114 6 rfl (nI_1 _) (by decide) rfl ?_
                    refine k_goto (tgt := 40) X dX5_blockAt_117 (by decide) ?_
                    refine k_lv (lv' := [(0, .ref m0), (1, .int (nI p)), (2, .int wn), (3, .int (sSum f p uS)), (4, .int (b2i true)), (5, .int (cN (pD S G (mDig f p uS) uW (sSum f p uS)) (k + 1) 0)), (6, .int (nI (k + 1)))]) [3, 4, 5, 6, 2, 1, 0] rfl ?_
                    refine k_sub (ws' := [(m0, .inr (5, [.ref yb, .ref yz, .ref ye, .int (nI dz), .int (nI sz), .int (nI wz), .int (nI bz), .int (nI uS), .int (nI uW), .ref ys, .ref yg, .int (nI mr), .int (nI ml), .int (nI mw), .int (nI ma), .ref yf, .ref yh, .ref yw, .ref yn, .ref yt, .ref yl, .int (nI tz)])), (yb, .inl (cB, 6000, .inl B)), (yz, .inl (cI, 3, .inl (zf ko kn kr))), (ys, .inl (cI, 2000, .inl S)), (yg, .inl (cB, 32000, .inl G)), (yf, .inl (cB, 2112, .inl F3)), (yw, .inl (cI, 16, .inl V3)), (yh, .inl (cI, 4, .inl H3)), (yn, .inl (cI, 64, .inl KN)), (yt, .inl (cI, 16, .inl KT))]) [7, 2, 0, 1, 8, 3, 4, 9, 5, 6] (by decide) rfl rfl ?_
                    refine k_wide (k := 0) (n := 0) (by (try dsimp only); omega) (by (try dsimp only); omega) ?_
                    exact ih (k + 1) true F3 V3 H3 (⟨by omega, ⟨fun _ => cN_pos (P := (pS S (sSum f p uS))) (by omega) hps, fun _ => rfl⟩, fun _ => hHd, lt_s hI.2.2.2 (fun z => absurd (congrArg Int32.toInt z) (fun y => c_93 (by rw [← y, nI_toInt (by omega)])))⟩) (by omega)
                · refine k_iload X dX5_blockAt_96 6 rfl ?_
                  have hkw : nI k = wn := Int32.toInt_inj.mp (by rw [nI_toInt (by omega)]; exact c_93)
                  exact k_iret (u := [(m0, .inr (5, [.ref yb, .ref yz, .ref ye, .int (nI dz), .int (nI sz), .int (nI wz), .int (nI bz), .int (nI uS), .int (nI uW), .ref ys, .ref yg, .int (nI mr), .int (nI ml), .int (nI mw), .int (nI ma), .ref yf, .ref yh, .ref yw, .ref yn, .ref yt, .ref yl, .int (nI tz)])), (yb, .inl (cB, 6000, .inl B)), (yz, .inl (cI, 3, .inl (zf ko kn kr))), (ys, .inl (cI, 2000, .inl S)), (yg, .inl (cB, 32000, .inl G)), (yf, .inl (cB, 2112, .inl F3)), (yw, .inl (cI, 16, .inl V3)), (yh, .inl (cI, 4, .inl H3)), (yn, .inl (cI, 64, .inl KN)), (yt, .inl (cI, 16, .inl KT))]) X hr [7, 2, 0, 1, 8, 3, 4, 9, 5, 6] (by decide) rfl rfl (⟨F3, V3, H3, by rw [← hkw, fnd_w (by omega) hz (pD_t (Int32.toInt_inj.mp c_57) hd0)], by rw [← hkw, fnd_w (by omega) hz (pD_t (Int32.toInt_inj.mp c_57) hd0), if_neg (fun z => m1_ne (by omega) z.2)]; rfl⟩) (by (try dsimp only); omega) (by (try dsimp only); omega) dX5_blockAt_98
            · refine k_as (y := 0) (by rw [hB_congr hw hHd, Bool.eq_false_iff.mpr hd0]; rfl) ?_
              have hd1 := Bool.eq_false_iff.mpr hd0
              refine k_lvx (lv' := [(4, .int 1), (0, .ref m0), (1, .int (nI p)), (2, .int wn), (3, .int (sSum f p uS)), (5, .int (cN (pD S G (mDig f p uS) uW (sSum f p uS)) (k + 1) 0)), (6, .int (nI k))]) (by rw [cN_same (P := (pD S G (mDig f p uS) uW (sSum f p uS))) (by omega) (pD_f hd1)]) ?_
              refine k_if_eq (tgt := 114) (xi := (0 : Int)) X (by decide) dX5_blockAt_87 (by decide) (fun c_87 => ?_) (fun c_87 => ?_)
              · refine k_iinc (v := nI (k + 1)) (lv' := [(6, .int (nI (k + 1))), (4, .int 1), (0, .ref m0), (1, .int (nI p)), (2, .int wn), (3, .int (sSum f p uS)), (5, .int (cN (pD S G (mDig f p uS) uW (sSum f p uS)) (k + 1) 0))]) X dX5_blockAt_114 6 rfl (nI_1 _) (by decide) rfl ?_
                refine k_goto (tgt := 40) X dX5_blockAt_117 (by decide) ?_
                refine k_lv (lv' := [(0, .ref m0), (1, .int (nI p)), (2, .int wn), (3, .int (sSum f p uS)), (4, .int (b2i true)), (5, .int (cN (pD S G (mDig f p uS) uW (sSum f p uS)) (k + 1) 0)), (6, .int (nI (k + 1)))]) [2, 3, 4, 5, 1, 6, 0] rfl ?_
                refine k_sub (ws' := [(m0, .inr (5, [.ref yb, .ref yz, .ref ye, .int (nI dz), .int (nI sz), .int (nI wz), .int (nI bz), .int (nI uS), .int (nI uW), .ref ys, .ref yg, .int (nI mr), .int (nI ml), .int (nI mw), .int (nI ma), .ref yf, .ref yh, .ref yw, .ref yn, .ref yt, .ref yl, .int (nI tz)])), (yb, .inl (cB, 6000, .inl B)), (yz, .inl (cI, 3, .inl (zf ko kn kr))), (ys, .inl (cI, 2000, .inl S)), (yg, .inl (cB, 32000, .inl G)), (yf, .inl (cB, 2112, .inl F3)), (yw, .inl (cI, 16, .inl V3)), (yh, .inl (cI, 4, .inl H3)), (yn, .inl (cI, 64, .inl KN)), (yt, .inl (cI, 16, .inl KT))]) [7, 2, 0, 1, 8, 3, 4, 9, 5, 6] (by decide) rfl rfl ?_
                refine k_wide (k := 0) (n := 0) (by (try dsimp only); omega) (by (try dsimp only); omega) ?_
                exact ih (k + 1) true F3 V3 H3 (⟨by omega, ⟨fun _ => cN_pos (P := (pS S (sSum f p uS))) (by omega) hps, fun _ => rfl⟩, fun _ => hHd, lt_s hI.2.2.2 (fun _ => pD_f hd1)⟩) (by omega)
              · exact absurd c_87 (by decide)
  · exact absurd c_12 (by omega)
set_option maxHeartbeats 4000000 in
set_option maxRecDepth 100000 in
theorem m_blockAt_f (l : Launch) (D : va_G) (cI cB : ClassId) (m0 : Nat) (yb : Nat) (yz : Nat) (ye : Nat) (ys : Nat) (yg : Nat) (yf : Nat) (yh : Nat) (yw : Nat) (yn : Nat) (yt : Nat) (yl : Nat) (dz : Nat) (sz : Nat) (wz : Nat) (bz : Nat) (uS : Nat) (uW : Nat) (mr : Nat) (ml : Nat) (mw : Nat) (ma : Nat) (tz : Nat) (ko : Nat) (kn : Nat) (kr : Nat) (p : Nat) (wn : Int32) (hn : kn ≤ 2000) (hp : p ≤ 8000) (hu : uS ≤ 256) (hpu : ¬ p + uS ≤ kn) : kC l yX5_blockAt cX5_blockAt 7 (some .int) 0 0 (0) (0) D cI cB [.ref m0, .int (nI p), .int wn] [(m0, .inr (5, [.ref yb, .ref yz, .ref ye, .int (nI dz), .int (nI sz), .int (nI wz), .int (nI bz), .int (nI uS), .int (nI uW), .ref ys, .ref yg, .int (nI mr), .int (nI ml), .int (nI mw), .int (nI ma), .ref yf, .ref yh, .ref yw, .ref yn, .ref yt, .ref yl, .int (nI tz)])), (yz, .inl (cI, 3, .inl (zf ko kn kr)))] (fun (vV : Option Value) (uU : va_W) => vV = some (.int (-1)) ∧ uU = [(m0, .inr (5, [.ref yb, .ref yz, .ref ye, .int (nI dz), .int (nI sz), .int (nI wz), .int (nI bz), .int (nI uS), .int (nI uW), .ref ys, .ref yg, .int (nI mr), .int (nI ml), .int (nI mw), .int (nI ma), .ref yf, .ref yh, .ref yw, .ref yn, .ref yt, .ref yl, .int (nI tz)])), (yz, .inl (cI, 3, .inl (zf ko kn kr)))]) := by
  refine k_entry (lv0 := [(0, .ref m0), (1, .int (nI p)), (2, .int wn)]) (by decide) (Nat.le_of_ble_eq_true rfl) rfl ?_
  intro zp ze zs zm zb zt zc zA X hr hin
  refine k_iload_n X dX5_blockAt_0 rfl 1 rfl ?_
  refine k_aload_n X dX5_blockAt_1 rfl 0 rfl ?_
  refine k_get (v := .int (nI uS)) X 0 5 7 rfl rfl (by decide) fl_X5_27 in_X5 rfl rfl dX5_blockAt_2 ?_
  refine k_iadd X dX5_blockAt_5 ?_
  refine k_as (y := nI (p + uS)) (nI_add _ _) ?_
  refine k_aload_n X dX5_blockAt_6 rfl 0 rfl ?_
  refine k_get (v := .ref yz) X 0 5 1 rfl rfl (by decide) fl_X5_13 in_X5 rfl rfl dX5_blockAt_7 ?_
  refine k_iconst (v := 1) X dX5_blockAt_10 (by decide) ?_
  refine k_iald (v := (zf ko kn kr) 1) X 1 rfl (vp_in_nI (n := 1) (by omega) (by omega)) (by rw [show ((1 : Int32).toNatClampNeg) = 1 from rfl]) dX5_blockAt_11 ?_
  refine k_as (y := nI kn) (rfl) ?_
  refine k_icmp_le (tgt := 17) (xi := (((p + uS) : Nat) : Int)) (yi := ((kn : Nat) : Int)) X (nI_toInt (by omega)) (nI_toInt (by omega)) dX5_blockAt_12 (by decide) (fun c_12 => ?_) (fun c_12 => ?_)
  · exact absurd c_12 (by omega)
  · refine k_iconst (v := -1) X dX5_blockAt_15 (by decide) ?_
    exact k_iret (u := [(m0, .inr (5, [.ref yb, .ref yz, .ref ye, .int (nI dz), .int (nI sz), .int (nI wz), .int (nI bz), .int (nI uS), .int (nI uW), .ref ys, .ref yg, .int (nI mr), .int (nI ml), .int (nI mw), .int (nI ma), .ref yf, .ref yh, .ref yw, .ref yn, .ref yt, .ref yl, .int (nI tz)])), (yz, .inl (cI, 3, .inl (zf ko kn kr)))]) X hr [0, 1] (by decide) rfl rfl (⟨rfl, rfl⟩) (by (try dsimp only); omega) (by (try dsimp only); omega) dX5_blockAt_16
