/-! the reference: its small methods -/
def zf (a b c : Nat) (j : Nat) : Int32 := if j = 0 then nI a else if j = 1 then nI b else if j = 2 then nI c else 0
theorem zf_0 (a b c x : Nat) : upd (zf a b c) 0 (nI x) = zf x b c := by
  funext j
  by_cases e : j = 0
  · rw [e, pk_us]; rfl
  · rw [pk_un e]; unfold zf; rw [if_neg e, if_neg e]
theorem zf_1 (a b c x : Nat) : upd (zf a b c) 1 (nI x) = zf a x c := by
  funext j
  by_cases e : j = 1
  · rw [e, pk_us]; rfl
  · rw [pk_un e]; unfold zf; rw [if_neg e, if_neg e]
theorem zf_2 (a b c x : Nat) : upd (zf a b c) 2 (nI x) = zf a b x := by
  funext j
  by_cases e : j = 2
  · rw [e, pk_us]; rfl
  · rw [pk_un e]; unfold zf; rw [if_neg e, if_neg e]
set_option maxHeartbeats 4000000 in
set_option maxRecDepth 100000 in
theorem m_isFile_0 (l : Launch) (D : va_G) (cI cB : ClassId)   : kC l yX5_isFile cX5_isFile 1 (some .boolean) 0 0 (0) (0) D cI cB [.int 0] [] (fun (vV : Option Value) (uU : va_W) => vV = some (.int 1) ∧ uU = []) := by
  refine k_entry (lv0 := [(0, .int 0)]) (by decide) (Nat.le_of_ble_eq_true rfl) rfl ?_
  intro zp ze zs zm zb zt zc zA X hr hin
  refine k_iload_n X dX5_isFile_0 rfl 0 rfl ?_
  refine k_if_eq (tgt := 9) (xi := (0 : Int)) X (by decide) dX5_isFile_1 (by decide) (fun c_1 => ?_) (fun c_1 => ?_)
  · refine k_iconst (v := 1) X dX5_isFile_9 (by decide) ?_
    refine k_goto (tgt := 14) X dX5_isFile_10 (by decide) ?_
    exact k_zret (u := []) X (by first | rfl | exact b2i_nar _ | decide) hr [] (by decide) rfl rfl (⟨rfl, rfl⟩) (by (try dsimp only); omega) (by (try dsimp only); omega) dX5_isFile_14
  · exact absurd c_1 (by decide)
set_option maxHeartbeats 4000000 in
set_option maxRecDepth 100000 in
theorem m_isFile_1 (l : Launch) (D : va_G) (cI cB : ClassId)   : kC l yX5_isFile cX5_isFile 1 (some .boolean) 0 0 (0) (0) D cI cB [.int 1] [] (fun (vV : Option Value) (uU : va_W) => vV = some (.int 1) ∧ uU = []) := by
  refine k_entry (lv0 := [(0, .int 1)]) (by decide) (Nat.le_of_ble_eq_true rfl) rfl ?_
  intro zp ze zs zm zb zt zc zA X hr hin
  refine k_iload_n X dX5_isFile_0 rfl 0 rfl ?_
  refine k_if_eq (tgt := 9) (xi := (1 : Int)) X (by decide) dX5_isFile_1 (by decide) (fun c_1 => ?_) (fun c_1 => ?_)
  · exact absurd c_1 (by decide)
  · refine k_iload_n X dX5_isFile_4 rfl 0 rfl ?_
    refine k_iconst (v := 1) X dX5_isFile_5 (by decide) ?_
    refine k_icmp_ne (tgt := 13) (xi := (1 : Int)) (yi := (1 : Int)) X (by decide) (by decide) dX5_isFile_6 (by decide) (fun c_6 => ?_) (fun c_6 => ?_)
    · exact absurd c_6 (by decide)
    · refine k_iconst (v := 1) X dX5_isFile_9 (by decide) ?_
      refine k_goto (tgt := 14) X dX5_isFile_10 (by decide) ?_
      exact k_zret (u := []) X (by first | rfl | exact b2i_nar _ | decide) hr [] (by decide) rfl rfl (⟨rfl, rfl⟩) (by (try dsimp only); omega) (by (try dsimp only); omega) dX5_isFile_14
set_option maxHeartbeats 4000000 in
set_option maxRecDepth 100000 in
theorem m_isFile_f (l : Launch) (D : va_G) (cI cB : ClassId) (wh : Int32) (hwh : ¬ wh.toInt = 0 ∧ ¬ wh.toInt = 1) : kC l yX5_isFile cX5_isFile 1 (some .boolean) 0 0 (0) (0) D cI cB [.int wh] [] (fun (vV : Option Value) (uU : va_W) => vV = some (.int 0) ∧ uU = []) := by
  refine k_entry (lv0 := [(0, .int wh)]) (by decide) (Nat.le_of_ble_eq_true rfl) rfl ?_
  intro zp ze zs zm zb zt zc zA X hr hin
  refine k_iload_n X dX5_isFile_0 rfl 0 rfl ?_
  refine k_if_eq (tgt := 9) (xi := wh.toInt) X (rfl) dX5_isFile_1 (by decide) (fun c_1 => ?_) (fun c_1 => ?_)
  · exact absurd c_1 (by omega)
  · refine k_iload_n X dX5_isFile_4 rfl 0 rfl ?_
    refine k_iconst (v := 1) X dX5_isFile_5 (by decide) ?_
    refine k_icmp_ne (tgt := 13) (xi := wh.toInt) (yi := (1 : Int)) X (rfl) (by decide) dX5_isFile_6 (by decide) (fun c_6 => ?_) (fun c_6 => ?_)
    · refine k_iconst (v := 0) X dX5_isFile_13 (by decide) ?_
      exact k_zret (u := []) X (by first | rfl | exact b2i_nar _ | decide) hr [] (by decide) rfl rfl (⟨rfl, rfl⟩) (by (try dsimp only); omega) (by (try dsimp only); omega) dX5_isFile_14
    · exact absurd c_6 (by omega)
set_option maxHeartbeats 4000000 in
set_option maxRecDepth 100000 in
theorem m_feed_0 (l : Launch) (D : va_G) (cI cB : ClassId) (m0 : Nat) (yb : Nat) (yz : Nat) (ye : Nat) (ys : Nat) (yg : Nat) (yf : Nat) (yh : Nat) (yw : Nat) (yn : Nat) (yt : Nat) (yl : Nat) (dz : Nat) (sz : Nat) (wz : Nat) (bz : Nat) (uS : Nat) (uW : Nat) (mr : Nat) (ml : Nat) (mw : Nat) (ma : Nat) (tz : Nat) (B : Nat → Int32) (ko : Nat) (kn : Nat) (kr : Nat) (v : Int32) (h4 : ko + 4 ≤ 2000) : kC l yX5_feed cX5_feed 4 (some .int) 1 20 (0) (0) D cI cB [.ref m0, .int 0, .int v] [(m0, .inr (5, [.ref yb, .ref yz, .ref ye, .int (nI dz), .int (nI sz), .int (nI wz), .int (nI bz), .int (nI uS), .int (nI uW), .ref ys, .ref yg, .int (nI mr), .int (nI ml), .int (nI mw), .int (nI ma), .ref yf, .ref yh, .ref yw, .ref yn, .ref yt, .ref yl, .int (nI tz)])), (yb, .inl (cB, 6000, .inl B)), (yz, .inl (cI, 3, .inl (zf ko kn kr)))] (fun (vV : Option Value) (uU : va_W) => ∃ (B9 : Nat → Int32), vV = some (.int (nI (ko + 4))) ∧ uU = [(m0, .inr (5, [.ref yb, .ref yz, .ref ye, .int (nI dz), .int (nI sz), .int (nI wz), .int (nI bz), .int (nI uS), .int (nI uW), .ref ys, .ref yg, .int (nI mr), .int (nI ml), .int (nI mw), .int (nI ma), .ref yf, .ref yh, .ref yw, .ref yn, .ref yt, .ref yl, .int (nI tz)])), (yb, .inl (cB, 6000, .inl B9)), (yz, .inl (cI, 3, .inl (zf (ko + 4) kn kr)))] ∧ (∀ j, j < 0 + ko ∨ 0 + ko + 4 ≤ j → B9 j = B j) ∧ (B9 (0 + ko) = (v >>> ((24 : Int32) &&& 31)).toInt8.toInt32 ∧ B9 (0 + ko + 1) = (v >>> ((16 : Int32) &&& 31)).toInt8.toInt32 ∧ B9 (0 + ko + 2) = (v >>> ((8 : Int32) &&& 31)).toInt8.toInt32 ∧ B9 (0 + ko + 3) = (v >>> ((0 : Int32) &&& 31)).toInt8.toInt32)) := by
  refine k_entry (lv0 := [(0, .ref m0), (1, .int 0), (2, .int v)]) (by decide) (Nat.le_of_ble_eq_true rfl) rfl ?_
  intro zp ze zs zm zb zt zc zA X hr hin
  refine k_iload_n X dX5_feed_0 rfl 1 rfl ?_
  refine k_callS (wc := []) (wr := [(m0, .inr (5, [.ref yb, .ref yz, .ref ye, .int (nI dz), .int (nI sz), .int (nI wz), .int (nI bz), .int (nI uS), .int (nI uW), .ref ys, .ref yg, .int (nI mr), .int (nI ml), .int (nI mw), .int (nI ma), .ref yf, .ref yh, .ref yw, .ref yn, .ref yt, .ref yl, .int (nI tz)])), (yb, .inl (cB, 6000, .inl B)), (yz, .inl (cI, 3, .inl (zf ko kn kr)))]) (As := [.int 0]) (n := 1) (st := []) X (m_isFile_0 l D cI cB  ) ml_X5_121 sm_X5_isFile ini_X5 co_X5_isFile (by decide +kernel) rfl ⟨Nat.le_of_ble_eq_true rfl, Nat.le_of_ble_eq_true rfl⟩ (⟨by (try dsimp only); omega, by (try dsimp only); omega⟩) (Nat.le_of_ble_eq_true rfl) [] [0, 1, 2] rfl rfl rfl (by decide) (by decide) (by decide) rfl dX5_feed_1 (fun v_1 u_1 hu_1 => ?_)
  obtain ⟨rfl, rfl⟩ := hu_1
  refine k_to (ws' := [(m0, .inr (5, [.ref yb, .ref yz, .ref ye, .int (nI dz), .int (nI sz), .int (nI wz), .int (nI bz), .int (nI uS), .int (nI uW), .ref ys, .ref yg, .int (nI mr), .int (nI ml), .int (nI mw), .int (nI ma), .ref yf, .ref yh, .ref yw, .ref yn, .ref yt, .ref yl, .int (nI tz)])), (yb, .inl (cB, 6000, .inl B)), (yz, .inl (cI, 3, .inl (zf ko kn kr)))]) (st' := [.int 1]) rfl rfl ?_
  refine k_if_eq (tgt := 21) (xi := (1 : Int)) X (by decide) dX5_feed_4 (by decide) (fun c_4 => ?_) (fun c_4 => ?_)
  · exact absurd c_4 (by decide)
  · refine k_aload_n X dX5_feed_7 rfl 0 rfl ?_
    refine k_get (v := .ref yz) X 0 5 1 rfl rfl (by decide) fl_X5_13 in_X5 rfl rfl dX5_feed_8 ?_
    refine k_iload_n X dX5_feed_11 rfl 1 rfl ?_
    refine k_iald (v := (zf ko kn kr) 0) X 2 rfl (vp_in_nI (n := 0) (by omega) (by omega)) (by rw [show ((0 : Int32).toNatClampNeg) = 0 from rfl]) dX5_feed_12 ?_
    refine k_as (y := nI ko) (rfl) ?_
    refine k_iconst (v := 4) X dX5_feed_13 (by decide) ?_
    refine k_iadd X dX5_feed_14 ?_
    refine k_as (y := nI (ko + 4)) (nI_add ko 4) ?_
    refine k_sipush (v := 2000) X dX5_feed_15 (by decide) ?_
    refine k_icmp_le (tgt := 23) (xi := (((ko + 4) : Nat) : Int)) (yi := (2000 : Int)) X (nI_toInt (by omega)) (by decide) dX5_feed_18 (by decide) (fun c_18 => ?_) (fun c_18 => ?_)
    · refine k_bipush (v := 24) X dX5_feed_23 (by decide) ?_
      refine k_istore_n (lv' := [(3, .int 24), (0, .ref m0), (1, .int 0), (2, .int v)]) X dX5_feed_25 rfl (by decide) rfl ?_
      refine k_iload_n X dX5_feed_26 rfl 0 rfl ?_
      refine k_if_lt (tgt := 67) (xi := (24 : Int)) X (by decide) dX5_feed_27 (by decide) (fun c_27 => ?_) (fun c_27 => ?_)
      · exact absurd c_27 (by decide)
      · refine k_aload_n X dX5_feed_30 rfl 1 rfl ?_
        refine k_get (v := .ref yb) X 0 5 0 rfl rfl (by decide) fl_X5_7 in_X5 rfl rfl dX5_feed_31 ?_
        refine k_sipush (v := 2000) X dX5_feed_34 (by decide) ?_
        refine k_iload_n X dX5_feed_37 rfl 2 rfl ?_
        refine k_imul X dX5_feed_38 ?_
        refine k_as (y := 0) (by decide) ?_
        refine k_aload_n X dX5_feed_39 rfl 1 rfl ?_
        refine k_get (v := .ref yz) X 0 5 1 rfl rfl (by decide) fl_X5_13 in_X5 rfl rfl dX5_feed_40 ?_
        refine k_iload_n X dX5_feed_43 rfl 2 rfl ?_
        refine k_iald (v := (zf ko kn kr) 0) X 2 rfl (vp_in_nI (n := 0) (by omega) (by omega)) (by rw [show ((0 : Int32).toNatClampNeg) = 0 from rfl]) dX5_feed_44 ?_
        refine k_as (y := nI ko) (rfl) ?_
        refine k_iadd X dX5_feed_45 ?_
        refine k_as (y := nI (0 + ko)) (nI_add 0 _) ?_
        refine k_iload_n X dX5_feed_46 rfl 3 rfl ?_
        refine k_iload_n X dX5_feed_47 rfl 0 rfl ?_
        refine k_ishr X dX5_feed_48 ?_
        refine k_i2b (v := (v >>> (24 &&& 31)).toInt8.toInt32) X dX5_feed_49 rfl ?_
        refine k_bast (f' := upd B (0 + ko) (vp_nar .byte ((v >>> (24 &&& 31)).toInt8.toInt32))) (ws' := [(m0, .inr (5, [.ref yb, .ref yz, .ref ye, .int (nI dz), .int (nI sz), .int (nI wz), .int (nI bz), .int (nI uS), .int (nI uW), .ref ys, .ref yg, .int (nI mr), .int (nI ml), .int (nI mw), .int (nI ma), .ref yf, .ref yh, .ref yw, .ref yn, .ref yt, .ref yl, .int (nI tz)])), (yb, .inl (cB, 6000, .inl (upd B (0 + ko) (vp_nar .byte ((v >>> (24 &&& 31)).toInt8.toInt32))))), (yz, .inl (cI, 3, .inl (zf ko kn kr)))]) X 1 rfl (vp_in_nI (n := 0 + ko) (by omega) (by omega)) (by rw [nI_clamp (n := 0 + ko) (by omega)]) rfl dX5_feed_50 ?_
        refine k_aload_n X dX5_feed_51 rfl 1 rfl ?_
        refine k_get (v := .ref yz) X 0 5 1 rfl rfl (by decide) fl_X5_13 in_X5 rfl rfl dX5_feed_52 ?_
        refine k_iload_n X dX5_feed_55 rfl 2 rfl ?_
        refine k_dup2 X dX5_feed_56 rfl rfl ?_
        refine k_iald (v := (zf ko kn kr) 0) X 2 rfl (vp_in_nI (n := 0) (by omega) (by omega)) (by rw [show ((0 : Int32).toNatClampNeg) = 0 from rfl]) dX5_feed_57 ?_
        refine k_as (y := nI ko) (rfl) ?_
        refine k_iconst (v := 1) X dX5_feed_58 (by decide) ?_
        refine k_iadd X dX5_feed_59 ?_
        refine k_as (y := nI (ko + 1)) (nI_1 _) ?_
        refine k_iast (f' := upd (zf ko kn kr) 0 (nI (ko + 1))) (ws' := [(m0, .inr (5, [.ref yb, .ref yz, .ref ye, .int (nI dz), .int (nI sz), .int (nI wz), .int (nI bz), .int (nI uS), .int (nI uW), .ref ys, .ref yg, .int (nI mr), .int (nI ml), .int (nI mw), .int (nI ma), .ref yf, .ref yh, .ref yw, .ref yn, .ref yt, .ref yl, .int (nI tz)])), (yb, .inl (cB, 6000, .inl (upd B (0 + ko) (vp_nar .byte ((v >>> (24 &&& 31)).toInt8.toInt32))))), (yz, .inl (cI, 3, .inl (upd (zf ko kn kr) 0 (nI (ko + 1)))))]) X 2 rfl (vp_in_nI (n := 0) (by omega) (by omega)) (by rw [show ((0 : Int32).toNatClampNeg) = 0 from rfl]) rfl dX5_feed_60 ?_
        refine k_ws (ws' := [(m0, .inr (5, [.ref yb, .ref yz, .ref ye, .int (nI dz), .int (nI sz), .int (nI wz), .int (nI bz), .int (nI uS), .int (nI uW), .ref ys, .ref yg, .int (nI mr), .int (nI ml), .int (nI mw), .int (nI ma), .ref yf, .ref yh, .ref yw, .ref yn, .ref yt, .ref yl, .int (nI tz)])), (yb, .inl (cB, 6000, .inl (upd B (0 + ko) (vp_nar .byte ((v >>> (24 &&& 31)).toInt8.toInt32))))), (yz, .inl (cI, 3, .inl (zf (ko + 1) kn kr)))]) (by rw [zf_0]) ?_
        refine k_iinc (v := 16) (lv' := [(3, .int 16), (0, .ref m0), (1, .int 0), (2, .int v)]) X dX5_feed_61 0 rfl (by decide) (by decide) rfl ?_
        refine k_goto (tgt := 26) X dX5_feed_64 (by decide) ?_
        refine k_iload_n X dX5_feed_26 rfl 0 rfl ?_
        refine k_if_lt (tgt := 67) (xi := (16 : Int)) X (by decide) dX5_feed_27 (by decide) (fun c_27 => ?_) (fun c_27 => ?_)
        · exact absurd c_27 (by decide)
        · refine k_aload_n X dX5_feed_30 rfl 1 rfl ?_
          refine k_get (v := .ref yb) X 0 5 0 rfl rfl (by decide) fl_X5_7 in_X5 rfl rfl dX5_feed_31 ?_
          refine k_sipush (v := 2000) X dX5_feed_34 (by decide) ?_
          refine k_iload_n X dX5_feed_37 rfl 2 rfl ?_
          refine k_imul X dX5_feed_38 ?_
          refine k_as (y := 0) (by decide) ?_
          refine k_aload_n X dX5_feed_39 rfl 1 rfl ?_
          refine k_get (v := .ref yz) X 0 5 1 rfl rfl (by decide) fl_X5_13 in_X5 rfl rfl dX5_feed_40 ?_
          refine k_iload_n X dX5_feed_43 rfl 2 rfl ?_
          refine k_iald (v := (zf (ko + 1) kn kr) 0) X 2 rfl (vp_in_nI (n := 0) (by omega) (by omega)) (by rw [show ((0 : Int32).toNatClampNeg) = 0 from rfl]) dX5_feed_44 ?_
          refine k_as (y := nI (ko + 1)) (rfl) ?_
          refine k_iadd X dX5_feed_45 ?_
          refine k_as (y := nI (0 + (ko + 1))) (nI_add 0 _) ?_
          refine k_iload_n X dX5_feed_46 rfl 3 rfl ?_
          refine k_iload_n X dX5_feed_47 rfl 0 rfl ?_
          refine k_ishr X dX5_feed_48 ?_
          refine k_i2b (v := (v >>> (16 &&& 31)).toInt8.toInt32) X dX5_feed_49 rfl ?_
          refine k_bast (f' := upd (upd B (0 + ko) (vp_nar .byte ((v >>> (24 &&& 31)).toInt8.toInt32))) (0 + (ko + 1)) (vp_nar .byte ((v >>> (16 &&& 31)).toInt8.toInt32))) (ws' := [(m0, .inr (5, [.ref yb, .ref yz, .ref ye, .int (nI dz), .int (nI sz), .int (nI wz), .int (nI bz), .int (nI uS), .int (nI uW), .ref ys, .ref yg, .int (nI mr), .int (nI ml), .int (nI mw), .int (nI ma), .ref yf, .ref yh, .ref yw, .ref yn, .ref yt, .ref yl, .int (nI tz)])), (yb, .inl (cB, 6000, .inl (upd (upd B (0 + ko) (vp_nar .byte ((v >>> (24 &&& 31)).toInt8.toInt32))) (0 + (ko + 1)) (vp_nar .byte ((v >>> (16 &&& 31)).toInt8.toInt32))))), (yz, .inl (cI, 3, .inl (zf (ko + 1) kn kr)))]) X 1 rfl (vp_in_nI (n := 0 + (ko + 1)) (by omega) (by omega)) (by rw [nI_clamp (n := 0 + (ko + 1)) (by omega)]) rfl dX5_feed_50 ?_
          refine k_aload_n X dX5_feed_51 rfl 1 rfl ?_
          refine k_get (v := .ref yz) X 0 5 1 rfl rfl (by decide) fl_X5_13 in_X5 rfl rfl dX5_feed_52 ?_
          refine k_iload_n X dX5_feed_55 rfl 2 rfl ?_
          refine k_dup2 X dX5_feed_56 rfl rfl ?_
          refine k_iald (v := (zf (ko + 1) kn kr) 0) X 2 rfl (vp_in_nI (n := 0) (by omega) (by omega)) (by rw [show ((0 : Int32).toNatClampNeg) = 0 from rfl]) dX5_feed_57 ?_
          refine k_as (y := nI (ko + 1)) (rfl) ?_
          refine k_iconst (v := 1) X dX5_feed_58 (by decide) ?_
          refine k_iadd X dX5_feed_59 ?_
          refine k_as (y := nI (ko + 2)) (nI_1 _) ?_
          refine k_iast (f' := upd (zf (ko + 1) kn kr) 0 (nI (ko + 2))) (ws' := [(m0, .inr (5, [.ref yb, .ref yz, .ref ye, .int (nI dz), .int (nI sz), .int (nI wz), .int (nI bz), .int (nI uS), .int (nI uW), .ref ys, .ref yg, .int (nI mr), .int (nI ml), .int (nI mw), .int (nI ma), .ref yf, .ref yh, .ref yw, .ref yn, .ref yt, .ref yl, .int (nI tz)])), (yb, .inl (cB, 6000, .inl (upd (upd B (0 + ko) (vp_nar .byte ((v >>> (24 &&& 31)).toInt8.toInt32))) (0 + (ko + 1)) (vp_nar .byte ((v >>> (16 &&& 31)).toInt8.toInt32))))), (yz, .inl (cI, 3, .inl (upd (zf (ko + 1) kn kr) 0 (nI (ko + 2)))))]) X 2 rfl (vp_in_nI (n := 0) (by omega) (by omega)) (by rw [show ((0 : Int32).toNatClampNeg) = 0 from rfl]) rfl dX5_feed_60 ?_
          refine k_ws (ws' := [(m0, .inr (5, [.ref yb, .ref yz, .ref ye, .int (nI dz), .int (nI sz), .int (nI wz), .int (nI bz), .int (nI uS), .int (nI uW), .ref ys, .ref yg, .int (nI mr), .int (nI ml), .int (nI mw), .int (nI ma), .ref yf, .ref yh, .ref yw, .ref yn, .ref yt, .ref yl, .int (nI tz)])), (yb, .inl (cB, 6000, .inl (upd (upd B (0 + ko) (vp_nar .byte ((v >>> (24 &&& 31)).toInt8.toInt32))) (0 + (ko + 1)) (vp_nar .byte ((v >>> (16 &&& 31)).toInt8.toInt32))))), (yz, .inl (cI, 3, .inl (zf (ko + 2) kn kr)))]) (by rw [zf_0]) ?_
          refine k_iinc (v := 8) (lv' := [(3, .int 8), (0, .ref m0), (1, .int 0), (2, .int v)]) X dX5_feed_61 0 rfl (by decide) (by decide) rfl ?_
          refine k_goto (tgt := 26) X dX5_feed_64 (by decide) ?_
          refine k_iload_n X dX5_feed_26 rfl 0 rfl ?_
          refine k_if_lt (tgt := 67) (xi := (8 : Int)) X (by decide) dX5_feed_27 (by decide) (fun c_27 => ?_) (fun c_27 => ?_)
          · exact absurd c_27 (by decide)
          · refine k_aload_n X dX5_feed_30 rfl 1 rfl ?_
            refine k_get (v := .ref yb) X 0 5 0 rfl rfl (by decide) fl_X5_7 in_X5 rfl rfl dX5_feed_31 ?_
            refine k_sipush (v := 2000) X dX5_feed_34 (by decide) ?_
            refine k_iload_n X dX5_feed_37 rfl 2 rfl ?_
            refine k_imul X dX5_feed_38 ?_
            refine k_as (y := 0) (by decide) ?_
            refine k_aload_n X dX5_feed_39 rfl 1 rfl ?_
            refine k_get (v := .ref yz) X 0 5 1 rfl rfl (by decide) fl_X5_13 in_X5 rfl rfl dX5_feed_40 ?_
            refine k_iload_n X dX5_feed_43 rfl 2 rfl ?_
            refine k_iald (v := (zf (ko + 2) kn kr) 0) X 2 rfl (vp_in_nI (n := 0) (by omega) (by omega)) (by rw [show ((0 : Int32).toNatClampNeg) = 0 from rfl]) dX5_feed_44 ?_
            refine k_as (y := nI (ko + 2)) (rfl) ?_
            refine k_iadd X dX5_feed_45 ?_
            refine k_as (y := nI (0 + (ko + 2))) (nI_add 0 _) ?_
            refine k_iload_n X dX5_feed_46 rfl 3 rfl ?_
            refine k_iload_n X dX5_feed_47 rfl 0 rfl ?_
            refine k_ishr X dX5_feed_48 ?_
            refine k_i2b (v := (v >>> (8 &&& 31)).toInt8.toInt32) X dX5_feed_49 rfl ?_
            refine k_bast (f' := upd (upd (upd B (0 + ko) (vp_nar .byte ((v >>> (24 &&& 31)).toInt8.toInt32))) (0 + (ko + 1)) (vp_nar .byte ((v >>> (16 &&& 31)).toInt8.toInt32))) (0 + (ko + 2)) (vp_nar .byte ((v >>> (8 &&& 31)).toInt8.toInt32))) (ws' := [(m0, .inr (5, [.ref yb, .ref yz, .ref ye, .int (nI dz), .int (nI sz), .int (nI wz), .int (nI bz), .int (nI uS), .int (nI uW), .ref ys, .ref yg, .int (nI mr), .int (nI ml), .int (nI mw), .int (nI ma), .ref yf, .ref yh, .ref yw, .ref yn, .ref yt, .ref yl, .int (nI tz)])), (yb, .inl (cB, 6000, .inl (upd (upd (upd B (0 + ko) (vp_nar .byte ((v >>> (24 &&& 31)).toInt8.toInt32))) (0 + (ko + 1)) (vp_nar .byte ((v >>> (16 &&& 31)).toInt8.toInt32))) (0 + (ko + 2)) (vp_nar .byte ((v >>> (8 &&& 31)).toInt8.toInt32))))), (yz, .inl (cI, 3, .inl (zf (ko + 2) kn kr)))]) X 1 rfl (vp_in_nI (n := 0 + (ko + 2)) (by omega) (by omega)) (by rw [nI_clamp (n := 0 + (ko + 2)) (by omega)]) rfl dX5_feed_50 ?_
            refine k_aload_n X dX5_feed_51 rfl 1 rfl ?_
            refine k_get (v := .ref yz) X 0 5 1 rfl rfl (by decide) fl_X5_13 in_X5 rfl rfl dX5_feed_52 ?_
            refine k_iload_n X dX5_feed_55 rfl 2 rfl ?_
            refine k_dup2 X dX5_feed_56 rfl rfl ?_
            refine k_iald (v := (zf (ko + 2) kn kr) 0) X 2 rfl (vp_in_nI (n := 0) (by omega) (by omega)) (by rw [show ((0 : Int32).toNatClampNeg) = 0 from rfl]) dX5_feed_57 ?_
            refine k_as (y := nI (ko + 2)) (rfl) ?_
            refine k_iconst (v := 1) X dX5_feed_58 (by decide) ?_
            refine k_iadd X dX5_feed_59 ?_
            refine k_as (y := nI (ko + 3)) (nI_1 _) ?_
            refine k_iast (f' := upd (zf (ko + 2) kn kr) 0 (nI (ko + 3))) (ws' := [(m0, .inr (5, [.ref yb, .ref yz, .ref ye, .int (nI dz), .int (nI sz), .int (nI wz), .int (nI bz), .int (nI uS), .int (nI uW), .ref ys, .ref yg, .int (nI mr), .int (nI ml), .int (nI mw), .int (nI ma), .ref yf, .ref yh, .ref yw, .ref yn, .ref yt, .ref yl, .int (nI tz)])), (yb, .inl (cB, 6000, .inl (upd (upd (upd B (0 + ko) (vp_nar .byte ((v >>> (24 &&& 31)).toInt8.toInt32))) (0 + (ko + 1)) (vp_nar .byte ((v >>> (16 &&& 31)).toInt8.toInt32))) (0 + (ko + 2)) (vp_nar .byte ((v >>> (8 &&& 31)).toInt8.toInt32))))), (yz, .inl (cI, 3, .inl (upd (zf (ko + 2) kn kr) 0 (nI (ko + 3)))))]) X 2 rfl (vp_in_nI (n := 0) (by omega) (by omega)) (by rw [show ((0 : Int32).toNatClampNeg) = 0 from rfl]) rfl dX5_feed_60 ?_
            refine k_ws (ws' := [(m0, .inr (5, [.ref yb, .ref yz, .ref ye, .int (nI dz), .int (nI sz), .int (nI wz), .int (nI bz), .int (nI uS), .int (nI uW), .ref ys, .ref yg, .int (nI mr), .int (nI ml), .int (nI mw), .int (nI ma), .ref yf, .ref yh, .ref yw, .ref yn, .ref yt, .ref yl, .int (nI tz)])), (yb, .inl (cB, 6000, .inl (upd (upd (upd B (0 + ko) (vp_nar .byte ((v >>> (24 &&& 31)).toInt8.toInt32))) (0 + (ko + 1)) (vp_nar .byte ((v >>> (16 &&& 31)).toInt8.toInt32))) (0 + (ko + 2)) (vp_nar .byte ((v >>> (8 &&& 31)).toInt8.toInt32))))), (yz, .inl (cI, 3, .inl (zf (ko + 3) kn kr)))]) (by rw [zf_0]) ?_
            refine k_iinc (v := 0) (lv' := [(3, .int 0), (0, .ref m0), (1, .int 0), (2, .int v)]) X dX5_feed_61 0 rfl (by decide) (by decide) rfl ?_
            refine k_goto (tgt := 26) X dX5_feed_64 (by decide) ?_
            refine k_iload_n X dX5_feed_26 rfl 0 rfl ?_
            refine k_if_lt (tgt := 67) (xi := (0 : Int)) X (by decide) dX5_feed_27 (by decide) (fun c_27 => ?_) (fun c_27 => ?_)
            · exact absurd c_27 (by decide)
            · refine k_aload_n X dX5_feed_30 rfl 1 rfl ?_
              refine k_get (v := .ref yb) X 0 5 0 rfl rfl (by decide) fl_X5_7 in_X5 rfl rfl dX5_feed_31 ?_
              refine k_sipush (v := 2000) X dX5_feed_34 (by decide) ?_
              refine k_iload_n X dX5_feed_37 rfl 2 rfl ?_
              refine k_imul X dX5_feed_38 ?_
              refine k_as (y := 0) (by decide) ?_
              refine k_aload_n X dX5_feed_39 rfl 1 rfl ?_
              refine k_get (v := .ref yz) X 0 5 1 rfl rfl (by decide) fl_X5_13 in_X5 rfl rfl dX5_feed_40 ?_
              refine k_iload_n X dX5_feed_43 rfl 2 rfl ?_
              refine k_iald (v := (zf (ko + 3) kn kr) 0) X 2 rfl (vp_in_nI (n := 0) (by omega) (by omega)) (by rw [show ((0 : Int32).toNatClampNeg) = 0 from rfl]) dX5_feed_44 ?_
              refine k_as (y := nI (ko + 3)) (rfl) ?_
              refine k_iadd X dX5_feed_45 ?_
              refine k_as (y := nI (0 + (ko + 3))) (nI_add 0 _) ?_
              refine k_iload_n X dX5_feed_46 rfl 3 rfl ?_
              refine k_iload_n X dX5_feed_47 rfl 0 rfl ?_
              refine k_ishr X dX5_feed_48 ?_
              refine k_i2b (v := (v >>> (0 &&& 31)).toInt8.toInt32) X dX5_feed_49 rfl ?_
              refine k_bast (f' := upd (upd (upd (upd B (0 + ko) (vp_nar .byte ((v >>> (24 &&& 31)).toInt8.toInt32))) (0 + (ko + 1)) (vp_nar .byte ((v >>> (16 &&& 31)).toInt8.toInt32))) (0 + (ko + 2)) (vp_nar .byte ((v >>> (8 &&& 31)).toInt8.toInt32))) (0 + (ko + 3)) (vp_nar .byte ((v >>> (0 &&& 31)).toInt8.toInt32))) (ws' := [(m0, .inr (5, [.ref yb, .ref yz, .ref ye, .int (nI dz), .int (nI sz), .int (nI wz), .int (nI bz), .int (nI uS), .int (nI uW), .ref ys, .ref yg, .int (nI mr), .int (nI ml), .int (nI mw), .int (nI ma), .ref yf, .ref yh, .ref yw, .ref yn, .ref yt, .ref yl, .int (nI tz)])), (yb, .inl (cB, 6000, .inl (upd (upd (upd (upd B (0 + ko) (vp_nar .byte ((v >>> (24 &&& 31)).toInt8.toInt32))) (0 + (ko + 1)) (vp_nar .byte ((v >>> (16 &&& 31)).toInt8.toInt32))) (0 + (ko + 2)) (vp_nar .byte ((v >>> (8 &&& 31)).toInt8.toInt32))) (0 + (ko + 3)) (vp_nar .byte ((v >>> (0 &&& 31)).toInt8.toInt32))))), (yz, .inl (cI, 3, .inl (zf (ko + 3) kn kr)))]) X 1 rfl (vp_in_nI (n := 0 + (ko + 3)) (by omega) (by omega)) (by rw [nI_clamp (n := 0 + (ko + 3)) (by omega)]) rfl dX5_feed_50 ?_
              refine k_aload_n X dX5_feed_51 rfl 1 rfl ?_
              refine k_get (v := .ref yz) X 0 5 1 rfl rfl (by decide) fl_X5_13 in_X5 rfl rfl dX5_feed_52 ?_
              refine k_iload_n X dX5_feed_55 rfl 2 rfl ?_
              refine k_dup2 X dX5_feed_56 rfl rfl ?_
              refine k_iald (v := (zf (ko + 3) kn kr) 0) X 2 rfl (vp_in_nI (n := 0) (by omega) (by omega)) (by rw [show ((0 : Int32).toNatClampNeg) = 0 from rfl]) dX5_feed_57 ?_
              refine k_as (y := nI (ko + 3)) (rfl) ?_
              refine k_iconst (v := 1) X dX5_feed_58 (by decide) ?_
              refine k_iadd X dX5_feed_59 ?_
              refine k_as (y := nI (ko + 4)) (nI_1 _) ?_
              refine k_iast (f' := upd (zf (ko + 3) kn kr) 0 (nI (ko + 4))) (ws' := [(m0, .inr (5, [.ref yb, .ref yz, .ref ye, .int (nI dz), .int (nI sz), .int (nI wz), .int (nI bz), .int (nI uS), .int (nI uW), .ref ys, .ref yg, .int (nI mr), .int (nI ml), .int (nI mw), .int (nI ma), .ref yf, .ref yh, .ref yw, .ref yn, .ref yt, .ref yl, .int (nI tz)])), (yb, .inl (cB, 6000, .inl (upd (upd (upd (upd B (0 + ko) (vp_nar .byte ((v >>> (24 &&& 31)).toInt8.toInt32))) (0 + (ko + 1)) (vp_nar .byte ((v >>> (16 &&& 31)).toInt8.toInt32))) (0 + (ko + 2)) (vp_nar .byte ((v >>> (8 &&& 31)).toInt8.toInt32))) (0 + (ko + 3)) (vp_nar .byte ((v >>> (0 &&& 31)).toInt8.toInt32))))), (yz, .inl (cI, 3, .inl (upd (zf (ko + 3) kn kr) 0 (nI (ko + 4)))))]) X 2 rfl (vp_in_nI (n := 0) (by omega) (by omega)) (by rw [show ((0 : Int32).toNatClampNeg) = 0 from rfl]) rfl dX5_feed_60 ?_
              refine k_ws (ws' := [(m0, .inr (5, [.ref yb, .ref yz, .ref ye, .int (nI dz), .int (nI sz), .int (nI wz), .int (nI bz), .int (nI uS), .int (nI uW), .ref ys, .ref yg, .int (nI mr), .int (nI ml), .int (nI mw), .int (nI ma), .ref yf, .ref yh, .ref yw, .ref yn, .ref yt, .ref yl, .int (nI tz)])), (yb, .inl (cB, 6000, .inl (upd (upd (upd (upd B (0 + ko) (vp_nar .byte ((v >>> (24 &&& 31)).toInt8.toInt32))) (0 + (ko + 1)) (vp_nar .byte ((v >>> (16 &&& 31)).toInt8.toInt32))) (0 + (ko + 2)) (vp_nar .byte ((v >>> (8 &&& 31)).toInt8.toInt32))) (0 + (ko + 3)) (vp_nar .byte ((v >>> (0 &&& 31)).toInt8.toInt32))))), (yz, .inl (cI, 3, .inl (zf (ko + 4) kn kr)))]) (by rw [zf_0]) ?_
              refine k_iinc (v := -8) (lv' := [(3, .int (-8)), (0, .ref m0), (1, .int 0), (2, .int v)]) X dX5_feed_61 0 rfl (by decide) (by decide) rfl ?_
              refine k_goto (tgt := 26) X dX5_feed_64 (by decide) ?_
              refine k_iload_n X dX5_feed_26 rfl 0 rfl ?_
              refine k_if_lt (tgt := 67) (xi := (-8 : Int)) X (by decide) dX5_feed_27 (by decide) (fun c_27 => ?_) (fun c_27 => ?_)
              · refine k_aload_n X dX5_feed_67 rfl 1 rfl ?_
                refine k_get (v := .ref yz) X 0 5 1 rfl rfl (by decide) fl_X5_13 in_X5 rfl rfl dX5_feed_68 ?_
                refine k_iload_n X dX5_feed_71 rfl 2 rfl ?_
                refine k_iald (v := (zf (ko + 4) kn kr) 0) X 2 rfl (vp_in_nI (n := 0) (by omega) (by omega)) (by rw [show ((0 : Int32).toNatClampNeg) = 0 from rfl]) dX5_feed_72 ?_
                refine k_as (y := nI (ko + 4)) (rfl) ?_
                exact k_iret (u := [(m0, .inr (5, [.ref yb, .ref yz, .ref ye, .int (nI dz), .int (nI sz), .int (nI wz), .int (nI bz), .int (nI uS), .int (nI uW), .ref ys, .ref yg, .int (nI mr), .int (nI ml), .int (nI mw), .int (nI ma), .ref yf, .ref yh, .ref yw, .ref yn, .ref yt, .ref yl, .int (nI tz)])), (yb, .inl (cB, 6000, .inl (upd (upd (upd (upd B (0 + ko) (vp_nar .byte ((v >>> (24 &&& 31)).toInt8.toInt32))) (0 + (ko + 1)) (vp_nar .byte ((v >>> (16 &&& 31)).toInt8.toInt32))) (0 + (ko + 2)) (vp_nar .byte ((v >>> (8 &&& 31)).toInt8.toInt32))) (0 + (ko + 3)) (vp_nar .byte ((v >>> (0 &&& 31)).toInt8.toInt32))))), (yz, .inl (cI, 3, .inl (zf (ko + 4) kn kr)))]) X hr [0, 1, 2] (by decide) rfl rfl (⟨_, rfl, rfl, fun j hj => by rw [pk_un (by omega), pk_un (by omega), pk_un (by omega), pk_un (by omega)], ⟨by rw [pk_un (by omega), pk_un (by omega), pk_un (by omega), pk_us, pk_vb], by rw [pk_un (by omega), pk_un (by omega), show 0 + ko + 1 = 0 + (ko + 1) by omega, pk_us, pk_vb], by rw [pk_un (by omega), show 0 + ko + 2 = 0 + (ko + 2) by omega, pk_us, pk_vb], by rw [show 0 + ko + 3 = 0 + (ko + 3) by omega, pk_us, pk_vb]⟩⟩) (by (try dsimp only); omega) (by (try dsimp only); omega) dX5_feed_73
              · exact absurd c_27 (by decide)
    · exact absurd c_18 (by omega)
set_option maxHeartbeats 4000000 in
set_option maxRecDepth 100000 in
theorem m_feed_0f (l : Launch) (D : va_G) (cI cB : ClassId) (m0 : Nat) (yb : Nat) (yz : Nat) (ye : Nat) (ys : Nat) (yg : Nat) (yf : Nat) (yh : Nat) (yw : Nat) (yn : Nat) (yt : Nat) (yl : Nat) (dz : Nat) (sz : Nat) (wz : Nat) (bz : Nat) (uS : Nat) (uW : Nat) (mr : Nat) (ml : Nat) (mw : Nat) (ma : Nat) (tz : Nat) (ko : Nat) (kn : Nat) (kr : Nat) (v : Int32) (hk : ko ≤ 2000) (h4 : ¬ ko + 4 ≤ 2000) : kC l yX5_feed cX5_feed 4 (some .int) 1 20 (0) (0) D cI cB [.ref m0, .int 0, .int v] [(m0, .inr (5, [.ref yb, .ref yz, .ref ye, .int (nI dz), .int (nI sz), .int (nI wz), .int (nI bz), .int (nI uS), .int (nI uW), .ref ys, .ref yg, .int (nI mr), .int (nI ml), .int (nI mw), .int (nI ma), .ref yf, .ref yh, .ref yw, .ref yn, .ref yt, .ref yl, .int (nI tz)])), (yz, .inl (cI, 3, .inl (zf ko kn kr)))] (fun (vV : Option Value) (uU : va_W) => vV = some (.int (-1)) ∧ uU = [(m0, .inr (5, [.ref yb, .ref yz, .ref ye, .int (nI dz), .int (nI sz), .int (nI wz), .int (nI bz), .int (nI uS), .int (nI uW), .ref ys, .ref yg, .int (nI mr), .int (nI ml), .int (nI mw), .int (nI ma), .ref yf, .ref yh, .ref yw, .ref yn, .ref yt, .ref yl, .int (nI tz)])), (yz, .inl (cI, 3, .inl (zf ko kn kr)))]) := by
  refine k_entry (lv0 := [(0, .ref m0), (1, .int 0), (2, .int v)]) (by decide) (Nat.le_of_ble_eq_true rfl) rfl ?_
  intro zp ze zs zm zb zt zc zA X hr hin
  refine k_iload_n X dX5_feed_0 rfl 1 rfl ?_
  refine k_callS (wc := []) (wr := [(m0, .inr (5, [.ref yb, .ref yz, .ref ye, .int (nI dz), .int (nI sz), .int (nI wz), .int (nI bz), .int (nI uS), .int (nI uW), .ref ys, .ref yg, .int (nI mr), .int (nI ml), .int (nI mw), .int (nI ma), .ref yf, .ref yh, .ref yw, .ref yn, .ref yt, .ref yl, .int (nI tz)])), (yz, .inl (cI, 3, .inl (zf ko kn kr)))]) (As := [.int 0]) (n := 1) (st := []) X (m_isFile_0 l D cI cB  ) ml_X5_121 sm_X5_isFile ini_X5 co_X5_isFile (by decide +kernel) rfl ⟨Nat.le_of_ble_eq_true rfl, Nat.le_of_ble_eq_true rfl⟩ (⟨by (try dsimp only); omega, by (try dsimp only); omega⟩) (Nat.le_of_ble_eq_true rfl) [] [0, 1] rfl rfl rfl (by decide) (by decide) (by decide) rfl dX5_feed_1 (fun v_1 u_1 hu_1 => ?_)
  obtain ⟨rfl, rfl⟩ := hu_1
  refine k_to (ws' := [(m0, .inr (5, [.ref yb, .ref yz, .ref ye, .int (nI dz), .int (nI sz), .int (nI wz), .int (nI bz), .int (nI uS), .int (nI uW), .ref ys, .ref yg, .int (nI mr), .int (nI ml), .int (nI mw), .int (nI ma), .ref yf, .ref yh, .ref yw, .ref yn, .ref yt, .ref yl, .int (nI tz)])), (yz, .inl (cI, 3, .inl (zf ko kn kr)))]) (st' := [.int 1]) rfl rfl ?_
  refine k_if_eq (tgt := 21) (xi := (1 : Int)) X (by decide) dX5_feed_4 (by decide) (fun c_4 => ?_) (fun c_4 => ?_)
  · exact absurd c_4 (by decide)
  · refine k_aload_n X dX5_feed_7 rfl 0 rfl ?_
    refine k_get (v := .ref yz) X 0 5 1 rfl rfl (by decide) fl_X5_13 in_X5 rfl rfl dX5_feed_8 ?_
    refine k_iload_n X dX5_feed_11 rfl 1 rfl ?_
    refine k_iald (v := (zf ko kn kr) 0) X 1 rfl (vp_in_nI (n := 0) (by omega) (by omega)) (by rw [show ((0 : Int32).toNatClampNeg) = 0 from rfl]) dX5_feed_12 ?_
    refine k_as (y := nI ko) (rfl) ?_
    refine k_iconst (v := 4) X dX5_feed_13 (by decide) ?_
    refine k_iadd X dX5_feed_14 ?_
    refine k_as (y := nI (ko + 4)) (nI_add ko 4) ?_
    refine k_sipush (v := 2000) X dX5_feed_15 (by decide) ?_
    refine k_icmp_le (tgt := 23) (xi := (((ko + 4) : Nat) : Int)) (yi := (2000 : Int)) X (nI_toInt (by omega)) (by decide) dX5_feed_18 (by decide) (fun c_18 => ?_) (fun c_18 => ?_)
    · exact absurd c_18 (by omega)
    · refine k_iconst (v := -1) X dX5_feed_21 (by decide) ?_
      exact k_iret (u := [(m0, .inr (5, [.ref yb, .ref yz, .ref ye, .int (nI dz), .int (nI sz), .int (nI wz), .int (nI bz), .int (nI uS), .int (nI uW), .ref ys, .ref yg, .int (nI mr), .int (nI ml), .int (nI mw), .int (nI ma), .ref yf, .ref yh, .ref yw, .ref yn, .ref yt, .ref yl, .int (nI tz)])), (yz, .inl (cI, 3, .inl (zf ko kn kr)))]) X hr [0, 1] (by decide) rfl rfl (⟨rfl, rfl⟩) (by (try dsimp only); omega) (by (try dsimp only); omega) dX5_feed_22
set_option maxHeartbeats 4000000 in
set_option maxRecDepth 100000 in
theorem m_feed_1 (l : Launch) (D : va_G) (cI cB : ClassId) (m0 : Nat) (yb : Nat) (yz : Nat) (ye : Nat) (ys : Nat) (yg : Nat) (yf : Nat) (yh : Nat) (yw : Nat) (yn : Nat) (yt : Nat) (yl : Nat) (dz : Nat) (sz : Nat) (wz : Nat) (bz : Nat) (uS : Nat) (uW : Nat) (mr : Nat) (ml : Nat) (mw : Nat) (ma : Nat) (tz : Nat) (B : Nat → Int32) (ko : Nat) (kn : Nat) (kr : Nat) (v : Int32) (h4 : kn + 4 ≤ 2000) : kC l yX5_feed cX5_feed 4 (some .int) 1 20 (0) (0) D cI cB [.ref m0, .int 1, .int v] [(m0, .inr (5, [.ref yb, .ref yz, .ref ye, .int (nI dz), .int (nI sz), .int (nI wz), .int (nI bz), .int (nI uS), .int (nI uW), .ref ys, .ref yg, .int (nI mr), .int (nI ml), .int (nI mw), .int (nI ma), .ref yf, .ref yh, .ref yw, .ref yn, .ref yt, .ref yl, .int (nI tz)])), (yb, .inl (cB, 6000, .inl B)), (yz, .inl (cI, 3, .inl (zf ko kn kr)))] (fun (vV : Option Value) (uU : va_W) => ∃ (B9 : Nat → Int32), vV = some (.int (nI (kn + 4))) ∧ uU = [(m0, .inr (5, [.ref yb, .ref yz, .ref ye, .int (nI dz), .int (nI sz), .int (nI wz), .int (nI bz), .int (nI uS), .int (nI uW), .ref ys, .ref yg, .int (nI mr), .int (nI ml), .int (nI mw), .int (nI ma), .ref yf, .ref yh, .ref yw, .ref yn, .ref yt, .ref yl, .int (nI tz)])), (yb, .inl (cB, 6000, .inl B9)), (yz, .inl (cI, 3, .inl (zf ko (kn + 4) kr)))] ∧ (∀ j, j < 2000 + kn ∨ 2000 + kn + 4 ≤ j → B9 j = B j) ∧ (B9 (2000 + kn) = (v >>> ((24 : Int32) &&& 31)).toInt8.toInt32 ∧ B9 (2000 + kn + 1) = (v >>> ((16 : Int32) &&& 31)).toInt8.toInt32 ∧ B9 (2000 + kn + 2) = (v >>> ((8 : Int32) &&& 31)).toInt8.toInt32 ∧ B9 (2000 + kn + 3) = (v >>> ((0 : Int32) &&& 31)).toInt8.toInt32)) := by
  refine k_entry (lv0 := [(0, .ref m0), (1, .int 1), (2, .int v)]) (by decide) (Nat.le_of_ble_eq_true rfl) rfl ?_
  intro zp ze zs zm zb zt zc zA X hr hin
  refine k_iload_n X dX5_feed_0 rfl 1 rfl ?_
  refine k_callS (wc := []) (wr := [(m0, .inr (5, [.ref yb, .ref yz, .ref ye, .int (nI dz), .int (nI sz), .int (nI wz), .int (nI bz), .int (nI uS), .int (nI uW), .ref ys, .ref yg, .int (nI mr), .int (nI ml), .int (nI mw), .int (nI ma), .ref yf, .ref yh, .ref yw, .ref yn, .ref yt, .ref yl, .int (nI tz)])), (yb, .inl (cB, 6000, .inl B)), (yz, .inl (cI, 3, .inl (zf ko kn kr)))]) (As := [.int 1]) (n := 1) (st := []) X (m_isFile_1 l D cI cB  ) ml_X5_121 sm_X5_isFile ini_X5 co_X5_isFile (by decide +kernel) rfl ⟨Nat.le_of_ble_eq_true rfl, Nat.le_of_ble_eq_true rfl⟩ (⟨by (try dsimp only); omega, by (try dsimp only); omega⟩) (Nat.le_of_ble_eq_true rfl) [] [0, 1, 2] rfl rfl rfl (by decide) (by decide) (by decide) rfl dX5_feed_1 (fun v_1 u_1 hu_1 => ?_)
  obtain ⟨rfl, rfl⟩ := hu_1
  refine k_to (ws' := [(m0, .inr (5, [.ref yb, .ref yz, .ref ye, .int (nI dz), .int (nI sz), .int (nI wz), .int (nI bz), .int (nI uS), .int (nI uW), .ref ys, .ref yg, .int (nI mr), .int (nI ml), .int (nI mw), .int (nI ma), .ref yf, .ref yh, .ref yw, .ref yn, .ref yt, .ref yl, .int (nI tz)])), (yb, .inl (cB, 6000, .inl B)), (yz, .inl (cI, 3, .inl (zf ko kn kr)))]) (st' := [.int 1]) rfl rfl ?_
  refine k_if_eq (tgt := 21) (xi := (1 : Int)) X (by decide) dX5_feed_4 (by decide) (fun c_4 => ?_) (fun c_4 => ?_)
  · exact absurd c_4 (by decide)
  · refine k_aload_n X dX5_feed_7 rfl 0 rfl ?_
    refine k_get (v := .ref yz) X 0 5 1 rfl rfl (by decide) fl_X5_13 in_X5 rfl rfl dX5_feed_8 ?_
    refine k_iload_n X dX5_feed_11 rfl 1 rfl ?_
    refine k_iald (v := (zf ko kn kr) 1) X 2 rfl (vp_in_nI (n := 1) (by omega) (by omega)) (by rw [show ((1 : Int32).toNatClampNeg) = 1 from rfl]) dX5_feed_12 ?_
    refine k_as (y := nI kn) (rfl) ?_
    refine k_iconst (v := 4) X dX5_feed_13 (by decide) ?_
    refine k_iadd X dX5_feed_14 ?_
    refine k_as (y := nI (kn + 4)) (nI_add kn 4) ?_
    refine k_sipush (v := 2000) X dX5_feed_15 (by decide) ?_
    refine k_icmp_le (tgt := 23) (xi := (((kn + 4) : Nat) : Int)) (yi := (2000 : Int)) X (nI_toInt (by omega)) (by decide) dX5_feed_18 (by decide) (fun c_18 => ?_) (fun c_18 => ?_)
    · refine k_bipush (v := 24) X dX5_feed_23 (by decide) ?_
      refine k_istore_n (lv' := [(3, .int 24), (0, .ref m0), (1, .int 1), (2, .int v)]) X dX5_feed_25 rfl (by decide) rfl ?_
      refine k_iload_n X dX5_feed_26 rfl 0 rfl ?_
      refine k_if_lt (tgt := 67) (xi := (24 : Int)) X (by decide) dX5_feed_27 (by decide) (fun c_27 => ?_) (fun c_27 => ?_)
      · exact absurd c_27 (by decide)
      · refine k_aload_n X dX5_feed_30 rfl 1 rfl ?_
        refine k_get (v := .ref yb) X 0 5 0 rfl rfl (by decide) fl_X5_7 in_X5 rfl rfl dX5_feed_31 ?_
        refine k_sipush (v := 2000) X dX5_feed_34 (by decide) ?_
        refine k_iload_n X dX5_feed_37 rfl 2 rfl ?_
        refine k_imul X dX5_feed_38 ?_
        refine k_as (y := 2000) (by decide) ?_
        refine k_aload_n X dX5_feed_39 rfl 1 rfl ?_
        refine k_get (v := .ref yz) X 0 5 1 rfl rfl (by decide) fl_X5_13 in_X5 rfl rfl dX5_feed_40 ?_
        refine k_iload_n X dX5_feed_43 rfl 2 rfl ?_
        refine k_iald (v := (zf ko kn kr) 1) X 2 rfl (vp_in_nI (n := 1) (by omega) (by omega)) (by rw [show ((1 : Int32).toNatClampNeg) = 1 from rfl]) dX5_feed_44 ?_
        refine k_as (y := nI kn) (rfl) ?_
        refine k_iadd X dX5_feed_45 ?_
        refine k_as (y := nI (2000 + kn)) (nI_add 2000 _) ?_
        refine k_iload_n X dX5_feed_46 rfl 3 rfl ?_
        refine k_iload_n X dX5_feed_47 rfl 0 rfl ?_
        refine k_ishr X dX5_feed_48 ?_
        refine k_i2b (v := (v >>> (24 &&& 31)).toInt8.toInt32) X dX5_feed_49 rfl ?_
        refine k_bast (f' := upd B (2000 + kn) (vp_nar .byte ((v >>> (24 &&& 31)).toInt8.toInt32))) (ws' := [(m0, .inr (5, [.ref yb, .ref yz, .ref ye, .int (nI dz), .int (nI sz), .int (nI wz), .int (nI bz), .int (nI uS), .int (nI uW), .ref ys, .ref yg, .int (nI mr), .int (nI ml), .int (nI mw), .int (nI ma), .ref yf, .ref yh, .ref yw, .ref yn, .ref yt, .ref yl, .int (nI tz)])), (yb, .inl (cB, 6000, .inl (upd B (2000 + kn) (vp_nar .byte ((v >>> (24 &&& 31)).toInt8.toInt32))))), (yz, .inl (cI, 3, .inl (zf ko kn kr)))]) X 1 rfl (vp_in_nI (n := 2000 + kn) (by omega) (by omega)) (by rw [nI_clamp (n := 2000 + kn) (by omega)]) rfl dX5_feed_50 ?_
        refine k_aload_n X dX5_feed_51 rfl 1 rfl ?_
        refine k_get (v := .ref yz) X 0 5 1 rfl rfl (by decide) fl_X5_13 in_X5 rfl rfl dX5_feed_52 ?_
        refine k_iload_n X dX5_feed_55 rfl 2 rfl ?_
        refine k_dup2 X dX5_feed_56 rfl rfl ?_
        refine k_iald (v := (zf ko kn kr) 1) X 2 rfl (vp_in_nI (n := 1) (by omega) (by omega)) (by rw [show ((1 : Int32).toNatClampNeg) = 1 from rfl]) dX5_feed_57 ?_
        refine k_as (y := nI kn) (rfl) ?_
        refine k_iconst (v := 1) X dX5_feed_58 (by decide) ?_
        refine k_iadd X dX5_feed_59 ?_
        refine k_as (y := nI (kn + 1)) (nI_1 _) ?_
        refine k_iast (f' := upd (zf ko kn kr) 1 (nI (kn + 1))) (ws' := [(m0, .inr (5, [.ref yb, .ref yz, .ref ye, .int (nI dz), .int (nI sz), .int (nI wz), .int (nI bz), .int (nI uS), .int (nI uW), .ref ys, .ref yg, .int (nI mr), .int (nI ml), .int (nI mw), .int (nI ma), .ref yf, .ref yh, .ref yw, .ref yn, .ref yt, .ref yl, .int (nI tz)])), (yb, .inl (cB, 6000, .inl (upd B (2000 + kn) (vp_nar .byte ((v >>> (24 &&& 31)).toInt8.toInt32))))), (yz, .inl (cI, 3, .inl (upd (zf ko kn kr) 1 (nI (kn + 1)))))]) X 2 rfl (vp_in_nI (n := 1) (by omega) (by omega)) (by rw [show ((1 : Int32).toNatClampNeg) = 1 from rfl]) rfl dX5_feed_60 ?_
        refine k_ws (ws' := [(m0, .inr (5, [.ref yb, .ref yz, .ref ye, .int (nI dz), .int (nI sz), .int (nI wz), .int (nI bz), .int (nI uS), .int (nI uW), .ref ys, .ref yg, .int (nI mr), .int (nI ml), .int (nI mw), .int (nI ma), .ref yf, .ref yh, .ref yw, .ref yn, .ref yt, .ref yl, .int (nI tz)])), (yb, .inl (cB, 6000, .inl (upd B (2000 + kn) (vp_nar .byte ((v >>> (24 &&& 31)).toInt8.toInt32))))), (yz, .inl (cI, 3, .inl (zf ko (kn + 1) kr)))]) (by rw [zf_1]) ?_
        refine k_iinc (v := 16) (lv' := [(3, .int 16), (0, .ref m0), (1, .int 1), (2, .int v)]) X dX5_feed_61 0 rfl (by decide) (by decide) rfl ?_
        refine k_goto (tgt := 26) X dX5_feed_64 (by decide) ?_
        refine k_iload_n X dX5_feed_26 rfl 0 rfl ?_
        refine k_if_lt (tgt := 67) (xi := (16 : Int)) X (by decide) dX5_feed_27 (by decide) (fun c_27 => ?_) (fun c_27 => ?_)
        · exact absurd c_27 (by decide)
        · refine k_aload_n X dX5_feed_30 rfl 1 rfl ?_
          refine k_get (v := .ref yb) X 0 5 0 rfl rfl (by decide) fl_X5_7 in_X5 rfl rfl dX5_feed_31 ?_
          refine k_sipush (v := 2000) X dX5_feed_34 (by decide) ?_
          refine k_iload_n X dX5_feed_37 rfl 2 rfl ?_
          refine k_imul X dX5_feed_38 ?_
          refine k_as (y := 2000) (by decide) ?_
          refine k_aload_n X dX5_feed_39 rfl 1 rfl ?_
          refine k_get (v := .ref yz) X 0 5 1 rfl rfl (by decide) fl_X5_13 in_X5 rfl rfl dX5_feed_40 ?_
          refine k_iload_n X dX5_feed_43 rfl 2 rfl ?_
          refine k_iald (v := (zf ko (kn + 1) kr) 1) X 2 rfl (vp_in_nI (n := 1) (by omega) (by omega)) (by rw [show ((1 : Int32).toNatClampNeg) = 1 from rfl]) dX5_feed_44 ?_
          refine k_as (y := nI (kn + 1)) (rfl) ?_
          refine k_iadd X dX5_feed_45 ?_
          refine k_as (y := nI (2000 + (kn + 1))) (nI_add 2000 _) ?_
          refine k_iload_n X dX5_feed_46 rfl 3 rfl ?_
          refine k_iload_n X dX5_feed_47 rfl 0 rfl ?_
          refine k_ishr X dX5_feed_48 ?_
          refine k_i2b (v := (v >>> (16 &&& 31)).toInt8.toInt32) X dX5_feed_49 rfl ?_
          refine k_bast (f' := upd (upd B (2000 + kn) (vp_nar .byte ((v >>> (24 &&& 31)).toInt8.toInt32))) (2000 + (kn + 1)) (vp_nar .byte ((v >>> (16 &&& 31)).toInt8.toInt32))) (ws' := [(m0, .inr (5, [.ref yb, .ref yz, .ref ye, .int (nI dz), .int (nI sz), .int (nI wz), .int (nI bz), .int (nI uS), .int (nI uW), .ref ys, .ref yg, .int (nI mr), .int (nI ml), .int (nI mw), .int (nI ma), .ref yf, .ref yh, .ref yw, .ref yn, .ref yt, .ref yl, .int (nI tz)])), (yb, .inl (cB, 6000, .inl (upd (upd B (2000 + kn) (vp_nar .byte ((v >>> (24 &&& 31)).toInt8.toInt32))) (2000 + (kn + 1)) (vp_nar .byte ((v >>> (16 &&& 31)).toInt8.toInt32))))), (yz, .inl (cI, 3, .inl (zf ko (kn + 1) kr)))]) X 1 rfl (vp_in_nI (n := 2000 + (kn + 1)) (by omega) (by omega)) (by rw [nI_clamp (n := 2000 + (kn + 1)) (by omega)]) rfl dX5_feed_50 ?_
          refine k_aload_n X dX5_feed_51 rfl 1 rfl ?_
          refine k_get (v := .ref yz) X 0 5 1 rfl rfl (by decide) fl_X5_13 in_X5 rfl rfl dX5_feed_52 ?_
          refine k_iload_n X dX5_feed_55 rfl 2 rfl ?_
          refine k_dup2 X dX5_feed_56 rfl rfl ?_
          refine k_iald (v := (zf ko (kn + 1) kr) 1) X 2 rfl (vp_in_nI (n := 1) (by omega) (by omega)) (by rw [show ((1 : Int32).toNatClampNeg) = 1 from rfl]) dX5_feed_57 ?_
          refine k_as (y := nI (kn + 1)) (rfl) ?_
          refine k_iconst (v := 1) X dX5_feed_58 (by decide) ?_
          refine k_iadd X dX5_feed_59 ?_
          refine k_as (y := nI (kn + 2)) (nI_1 _) ?_
          refine k_iast (f' := upd (zf ko (kn + 1) kr) 1 (nI (kn + 2))) (ws' := [(m0, .inr (5, [.ref yb, .ref yz, .ref ye, .int (nI dz), .int (nI sz), .int (nI wz), .int (nI bz), .int (nI uS), .int (nI uW), .ref ys, .ref yg, .int (nI mr), .int (nI ml), .int (nI mw), .int (nI ma), .ref yf, .ref yh, .ref yw, .ref yn, .ref yt, .ref yl, .int (nI tz)])), (yb, .inl (cB, 6000, .inl (upd (upd B (2000 + kn) (vp_nar .byte ((v >>> (24 &&& 31)).toInt8.toInt32))) (2000 + (kn + 1)) (vp_nar .byte ((v >>> (16 &&& 31)).toInt8.toInt32))))), (yz, .inl (cI, 3, .inl (upd (zf ko (kn + 1) kr) 1 (nI (kn + 2)))))]) X 2 rfl (vp_in_nI (n := 1) (by omega) (by omega)) (by rw [show ((1 : Int32).toNatClampNeg) = 1 from rfl]) rfl dX5_feed_60 ?_
          refine k_ws (ws' := [(m0, .inr (5, [.ref yb, .ref yz, .ref ye, .int (nI dz), .int (nI sz), .int (nI wz), .int (nI bz), .int (nI uS), .int (nI uW), .ref ys, .ref yg, .int (nI mr), .int (nI ml), .int (nI mw), .int (nI ma), .ref yf, .ref yh, .ref yw, .ref yn, .ref yt, .ref yl, .int (nI tz)])), (yb, .inl (cB, 6000, .inl (upd (upd B (2000 + kn) (vp_nar .byte ((v >>> (24 &&& 31)).toInt8.toInt32))) (2000 + (kn + 1)) (vp_nar .byte ((v >>> (16 &&& 31)).toInt8.toInt32))))), (yz, .inl (cI, 3, .inl (zf ko (kn + 2) kr)))]) (by rw [zf_1]) ?_
          refine k_iinc (v := 8) (lv' := [(3, .int 8), (0, .ref m0), (1, .int 1), (2, .int v)]) X dX5_feed_61 0 rfl (by decide) (by decide) rfl ?_
          refine k_goto (tgt := 26) X dX5_feed_64 (by decide) ?_
          refine k_iload_n X dX5_feed_26 rfl 0 rfl ?_
          refine k_if_lt (tgt := 67) (xi := (8 : Int)) X (by decide) dX5_feed_27 (by decide) (fun c_27 => ?_) (fun c_27 => ?_)
          · exact absurd c_27 (by decide)
          · refine k_aload_n X dX5_feed_30 rfl 1 rfl ?_
            refine k_get (v := .ref yb) X 0 5 0 rfl rfl (by decide) fl_X5_7 in_X5 rfl rfl dX5_feed_31 ?_
            refine k_sipush (v := 2000) X dX5_feed_34 (by decide) ?_
            refine k_iload_n X dX5_feed_37 rfl 2 rfl ?_
            refine k_imul X dX5_feed_38 ?_
            refine k_as (y := 2000) (by decide) ?_
            refine k_aload_n X dX5_feed_39 rfl 1 rfl ?_
            refine k_get (v := .ref yz) X 0 5 1 rfl rfl (by decide) fl_X5_13 in_X5 rfl rfl dX5_feed_40 ?_
            refine k_iload_n X dX5_feed_43 rfl 2 rfl ?_
            refine k_iald (v := (zf ko (kn + 2) kr) 1) X 2 rfl (vp_in_nI (n := 1) (by omega) (by omega)) (by rw [show ((1 : Int32).toNatClampNeg) = 1 from rfl]) dX5_feed_44 ?_
            refine k_as (y := nI (kn + 2)) (rfl) ?_
            refine k_iadd X dX5_feed_45 ?_
            refine k_as (y := nI (2000 + (kn + 2))) (nI_add 2000 _) ?_
            refine k_iload_n X dX5_feed_46 rfl 3 rfl ?_
            refine k_iload_n X dX5_feed_47 rfl 0 rfl ?_
            refine k_ishr X dX5_feed_48 ?_
            refine k_i2b (v := (v >>> (8 &&& 31)).toInt8.toInt32) X dX5_feed_49 rfl ?_
            refine k_bast (f' := upd (upd (upd B (2000 + kn) (vp_nar .byte ((v >>> (24 &&& 31)).toInt8.toInt32))) (2000 + (kn + 1)) (vp_nar .byte ((v >>> (16 &&& 31)).toInt8.toInt32))) (2000 + (kn + 2)) (vp_nar .byte ((v >>> (8 &&& 31)).toInt8.toInt32))) (ws' := [(m0, .inr (5, [.ref yb, .ref yz, .ref ye, .int (nI dz), .int (nI sz), .int (nI wz), .int (nI bz), .int (nI uS), .int (nI uW), .ref ys, .ref yg, .int (nI mr), .int (nI ml), .int (nI mw), .int (nI ma), .ref yf, .ref yh, .ref yw, .ref yn, .ref yt, .ref yl, .int (nI tz)])), (yb, .inl (cB, 6000, .inl (upd (upd (upd B (2000 + kn) (vp_nar .byte ((v >>> (24 &&& 31)).toInt8.toInt32))) (2000 + (kn + 1)) (vp_nar .byte ((v >>> (16 &&& 31)).toInt8.toInt32))) (2000 + (kn + 2)) (vp_nar .byte ((v >>> (8 &&& 31)).toInt8.toInt32))))), (yz, .inl (cI, 3, .inl (zf ko (kn + 2) kr)))]) X 1 rfl (vp_in_nI (n := 2000 + (kn + 2)) (by omega) (by omega)) (by rw [nI_clamp (n := 2000 + (kn + 2)) (by omega)]) rfl dX5_feed_50 ?_
            refine k_aload_n X dX5_feed_51 rfl 1 rfl ?_
            refine k_get (v := .ref yz) X 0 5 1 rfl rfl (by decide) fl_X5_13 in_X5 rfl rfl dX5_feed_52 ?_
            refine k_iload_n X dX5_feed_55 rfl 2 rfl ?_
            refine k_dup2 X dX5_feed_56 rfl rfl ?_
            refine k_iald (v := (zf ko (kn + 2) kr) 1) X 2 rfl (vp_in_nI (n := 1) (by omega) (by omega)) (by rw [show ((1 : Int32).toNatClampNeg) = 1 from rfl]) dX5_feed_57 ?_
            refine k_as (y := nI (kn + 2)) (rfl) ?_
            refine k_iconst (v := 1) X dX5_feed_58 (by decide) ?_
            refine k_iadd X dX5_feed_59 ?_
            refine k_as (y := nI (kn + 3)) (nI_1 _) ?_
            refine k_iast (f' := upd (zf ko (kn + 2) kr) 1 (nI (kn + 3))) (ws' := [(m0, .inr (5, [.ref yb, .ref yz, .ref ye, .int (nI dz), .int (nI sz), .int (nI wz), .int (nI bz), .int (nI uS), .int (nI uW), .ref ys, .ref yg, .int (nI mr), .int (nI ml), .int (nI mw), .int (nI ma), .ref yf, .ref yh, .ref yw, .ref yn, .ref yt, .ref yl, .int (nI tz)])), (yb, .inl (cB, 6000, .inl (upd (upd (upd B (2000 + kn) (vp_nar .byte ((v >>> (24 &&& 31)).toInt8.toInt32))) (2000 + (kn + 1)) (vp_nar .byte ((v >>> (16 &&& 31)).toInt8.toInt32))) (2000 + (kn + 2)) (vp_nar .byte ((v >>> (8 &&& 31)).toInt8.toInt32))))), (yz, .inl (cI, 3, .inl (upd (zf ko (kn + 2) kr) 1 (nI (kn + 3)))))]) X 2 rfl (vp_in_nI (n := 1) (by omega) (by omega)) (by rw [show ((1 : Int32).toNatClampNeg) = 1 from rfl]) rfl dX5_feed_60 ?_
            refine k_ws (ws' := [(m0, .inr (5, [.ref yb, .ref yz, .ref ye, .int (nI dz), .int (nI sz), .int (nI wz), .int (nI bz), .int (nI uS), .int (nI uW), .ref ys, .ref yg, .int (nI mr), .int (nI ml), .int (nI mw), .int (nI ma), .ref yf, .ref yh, .ref yw, .ref yn, .ref yt, .ref yl, .int (nI tz)])), (yb, .inl (cB, 6000, .inl (upd (upd (upd B (2000 + kn) (vp_nar .byte ((v >>> (24 &&& 31)).toInt8.toInt32))) (2000 + (kn + 1)) (vp_nar .byte ((v >>> (16 &&& 31)).toInt8.toInt32))) (2000 + (kn + 2)) (vp_nar .byte ((v >>> (8 &&& 31)).toInt8.toInt32))))), (yz, .inl (cI, 3, .inl (zf ko (kn + 3) kr)))]) (by rw [zf_1]) ?_
            refine k_iinc (v := 0) (lv' := [(3, .int 0), (0, .ref m0), (1, .int 1), (2, .int v)]) X dX5_feed_61 0 rfl (by decide) (by decide) rfl ?_
            refine k_goto (tgt := 26) X dX5_feed_64 (by decide) ?_
            refine k_iload_n X dX5_feed_26 rfl 0 rfl ?_
            refine k_if_lt (tgt := 67) (xi := (0 : Int)) X (by decide) dX5_feed_27 (by decide) (fun c_27 => ?_) (fun c_27 => ?_)
            · exact absurd c_27 (by decide)
            · refine k_aload_n X dX5_feed_30 rfl 1 rfl ?_
              refine k_get (v := .ref yb) X 0 5 0 rfl rfl (by decide) fl_X5_7 in_X5 rfl rfl dX5_feed_31 ?_
              refine k_sipush (v := 2000) X dX5_feed_34 (by decide) ?_
              refine k_iload_n X dX5_feed_37 rfl 2 rfl ?_
              refine k_imul X dX5_feed_38 ?_
              refine k_as (y := 2000) (by decide) ?_
              refine k_aload_n X dX5_feed_39 rfl 1 rfl ?_
              refine k_get (v := .ref yz) X 0 5 1 rfl rfl (by decide) fl_X5_13 in_X5 rfl rfl dX5_feed_40 ?_
              refine k_iload_n X dX5_feed_43 rfl 2 rfl ?_
              refine k_iald (v := (zf ko (kn + 3) kr) 1) X 2 rfl (vp_in_nI (n := 1) (by omega) (by omega)) (by rw [show ((1 : Int32).toNatClampNeg) = 1 from rfl]) dX5_feed_44 ?_
              refine k_as (y := nI (kn + 3)) (rfl) ?_
              refine k_iadd X dX5_feed_45 ?_
              refine k_as (y := nI (2000 + (kn + 3))) (nI_add 2000 _) ?_
              refine k_iload_n X dX5_feed_46 rfl 3 rfl ?_
              refine k_iload_n X dX5_feed_47 rfl 0 rfl ?_
              refine k_ishr X dX5_feed_48 ?_
              refine k_i2b (v := (v >>> (0 &&& 31)).toInt8.toInt32) X dX5_feed_49 rfl ?_
              refine k_bast (f' := upd (upd (upd (upd B (2000 + kn) (vp_nar .byte ((v >>> (24 &&& 31)).toInt8.toInt32))) (2000 + (kn + 1)) (vp_nar .byte ((v >>> (16 &&& 31)).toInt8.toInt32))) (2000 + (kn + 2)) (vp_nar .byte ((v >>> (8 &&& 31)).toInt8.toInt32))) (2000 + (kn + 3)) (vp_nar .byte ((v >>> (0 &&& 31)).toInt8.toInt32))) (ws' := [(m0, .inr (5, [.ref yb, .ref yz, .ref ye, .int (nI dz), .int (nI sz), .int (nI wz), .int (nI bz), .int (nI uS), .int (nI uW), .ref ys, .ref yg, .int (nI mr), .int (nI ml), .int (nI mw), .int (nI ma), .ref yf, .ref yh, .ref yw, .ref yn, .ref yt, .ref yl, .int (nI tz)])), (yb, .inl (cB, 6000, .inl (upd (upd (upd (upd B (2000 + kn) (vp_nar .byte ((v >>> (24 &&& 31)).toInt8.toInt32))) (2000 + (kn + 1)) (vp_nar .byte ((v >>> (16 &&& 31)).toInt8.toInt32))) (2000 + (kn + 2)) (vp_nar .byte ((v >>> (8 &&& 31)).toInt8.toInt32))) (2000 + (kn + 3)) (vp_nar .byte ((v >>> (0 &&& 31)).toInt8.toInt32))))), (yz, .inl (cI, 3, .inl (zf ko (kn + 3) kr)))]) X 1 rfl (vp_in_nI (n := 2000 + (kn + 3)) (by omega) (by omega)) (by rw [nI_clamp (n := 2000 + (kn + 3)) (by omega)]) rfl dX5_feed_50 ?_
              refine k_aload_n X dX5_feed_51 rfl 1 rfl ?_
              refine k_get (v := .ref yz) X 0 5 1 rfl rfl (by decide) fl_X5_13 in_X5 rfl rfl dX5_feed_52 ?_
              refine k_iload_n X dX5_feed_55 rfl 2 rfl ?_
              refine k_dup2 X dX5_feed_56 rfl rfl ?_
              refine k_iald (v := (zf ko (kn + 3) kr) 1) X 2 rfl (vp_in_nI (n := 1) (by omega) (by omega)) (by rw [show ((1 : Int32).toNatClampNeg) = 1 from rfl]) dX5_feed_57 ?_
              refine k_as (y := nI (kn + 3)) (rfl) ?_
              refine k_iconst (v := 1) X dX5_feed_58 (by decide) ?_
              refine k_iadd X dX5_feed_59 ?_
              refine k_as (y := nI (kn + 4)) (nI_1 _) ?_
              refine k_iast (f' := upd (zf ko (kn + 3) kr) 1 (nI (kn + 4))) (ws' := [(m0, .inr (5, [.ref yb, .ref yz, .ref ye, .int (nI dz), .int (nI sz), .int (nI wz), .int (nI bz), .int (nI uS), .int (nI uW), .ref ys, .ref yg, .int (nI mr), .int (nI ml), .int (nI mw), .int (nI ma), .ref yf, .ref yh, .ref yw, .ref yn, .ref yt, .ref yl, .int (nI tz)])), (yb, .inl (cB, 6000, .inl (upd (upd (upd (upd B (2000 + kn) (vp_nar .byte ((v >>> (24 &&& 31)).toInt8.toInt32))) (2000 + (kn + 1)) (vp_nar .byte ((v >>> (16 &&& 31)).toInt8.toInt32))) (2000 + (kn + 2)) (vp_nar .byte ((v >>> (8 &&& 31)).toInt8.toInt32))) (2000 + (kn + 3)) (vp_nar .byte ((v >>> (0 &&& 31)).toInt8.toInt32))))), (yz, .inl (cI, 3, .inl (upd (zf ko (kn + 3) kr) 1 (nI (kn + 4)))))]) X 2 rfl (vp_in_nI (n := 1) (by omega) (by omega)) (by rw [show ((1 : Int32).toNatClampNeg) = 1 from rfl]) rfl dX5_feed_60 ?_
              refine k_ws (ws' := [(m0, .inr (5, [.ref yb, .ref yz, .ref ye, .int (nI dz), .int (nI sz), .int (nI wz), .int (nI bz), .int (nI uS), .int (nI uW), .ref ys, .ref yg, .int (nI mr), .int (nI ml), .int (nI mw), .int (nI ma), .ref yf, .ref yh, .ref yw, .ref yn, .ref yt, .ref yl, .int (nI tz)])), (yb, .inl (cB, 6000, .inl (upd (upd (upd (upd B (2000 + kn) (vp_nar .byte ((v >>> (24 &&& 31)).toInt8.toInt32))) (2000 + (kn + 1)) (vp_nar .byte ((v >>> (16 &&& 31)).toInt8.toInt32))) (2000 + (kn + 2)) (vp_nar .byte ((v >>> (8 &&& 31)).toInt8.toInt32))) (2000 + (kn + 3)) (vp_nar .byte ((v >>> (0 &&& 31)).toInt8.toInt32))))), (yz, .inl (cI, 3, .inl (zf ko (kn + 4) kr)))]) (by rw [zf_1]) ?_
              refine k_iinc (v := -8) (lv' := [(3, .int (-8)), (0, .ref m0), (1, .int 1), (2, .int v)]) X dX5_feed_61 0 rfl (by decide) (by decide) rfl ?_
              refine k_goto (tgt := 26) X dX5_feed_64 (by decide) ?_
              refine k_iload_n X dX5_feed_26 rfl 0 rfl ?_
              refine k_if_lt (tgt := 67) (xi := (-8 : Int)) X (by decide) dX5_feed_27 (by decide) (fun c_27 => ?_) (fun c_27 => ?_)
              · refine k_aload_n X dX5_feed_67 rfl 1 rfl ?_
                refine k_get (v := .ref yz) X 0 5 1 rfl rfl (by decide) fl_X5_13 in_X5 rfl rfl dX5_feed_68 ?_
                refine k_iload_n X dX5_feed_71 rfl 2 rfl ?_
                refine k_iald (v := (zf ko (kn + 4) kr) 1) X 2 rfl (vp_in_nI (n := 1) (by omega) (by omega)) (by rw [show ((1 : Int32).toNatClampNeg) = 1 from rfl]) dX5_feed_72 ?_
                refine k_as (y := nI (kn + 4)) (rfl) ?_
                exact k_iret (u := [(m0, .inr (5, [.ref yb, .ref yz, .ref ye, .int (nI dz), .int (nI sz), .int (nI wz), .int (nI bz), .int (nI uS), .int (nI uW), .ref ys, .ref yg, .int (nI mr), .int (nI ml), .int (nI mw), .int (nI ma), .ref yf, .ref yh, .ref yw, .ref yn, .ref yt, .ref yl, .int (nI tz)])), (yb, .inl (cB, 6000, .inl (upd (upd (upd (upd B (2000 + kn) (vp_nar .byte ((v >>> (24 &&& 31)).toInt8.toInt32))) (2000 + (kn + 1)) (vp_nar .byte ((v >>> (16 &&& 31)).toInt8.toInt32))) (2000 + (kn + 2)) (vp_nar .byte ((v >>> (8 &&& 31)).toInt8.toInt32))) (2000 + (kn + 3)) (vp_nar .byte ((v >>> (0 &&& 31)).toInt8.toInt32))))), (yz, .inl (cI, 3, .inl (zf ko (kn + 4) kr)))]) X hr [0, 1, 2] (by decide) rfl rfl (⟨_, rfl, rfl, fun j hj => by rw [pk_un (by omega), pk_un (by omega), pk_un (by omega), pk_un (by omega)], ⟨by rw [pk_un (by omega), pk_un (by omega), pk_un (by omega), pk_us, pk_vb], by rw [pk_un (by omega), pk_un (by omega), show 2000 + kn + 1 = 2000 + (kn + 1) by omega, pk_us, pk_vb], by rw [pk_un (by omega), show 2000 + kn + 2 = 2000 + (kn + 2) by omega, pk_us, pk_vb], by rw [show 2000 + kn + 3 = 2000 + (kn + 3) by omega, pk_us, pk_vb]⟩⟩) (by (try dsimp only); omega) (by (try dsimp only); omega) dX5_feed_73
              · exact absurd c_27 (by decide)
    · exact absurd c_18 (by omega)
set_option maxHeartbeats 4000000 in
set_option maxRecDepth 100000 in
theorem m_feed_1f (l : Launch) (D : va_G) (cI cB : ClassId) (m0 : Nat) (yb : Nat) (yz : Nat) (ye : Nat) (ys : Nat) (yg : Nat) (yf : Nat) (yh : Nat) (yw : Nat) (yn : Nat) (yt : Nat) (yl : Nat) (dz : Nat) (sz : Nat) (wz : Nat) (bz : Nat) (uS : Nat) (uW : Nat) (mr : Nat) (ml : Nat) (mw : Nat) (ma : Nat) (tz : Nat) (ko : Nat) (kn : Nat) (kr : Nat) (v : Int32) (hk : kn ≤ 2000) (h4 : ¬ kn + 4 ≤ 2000) : kC l yX5_feed cX5_feed 4 (some .int) 1 20 (0) (0) D cI cB [.ref m0, .int 1, .int v] [(m0, .inr (5, [.ref yb, .ref yz, .ref ye, .int (nI dz), .int (nI sz), .int (nI wz), .int (nI bz), .int (nI uS), .int (nI uW), .ref ys, .ref yg, .int (nI mr), .int (nI ml), .int (nI mw), .int (nI ma), .ref yf, .ref yh, .ref yw, .ref yn, .ref yt, .ref yl, .int (nI tz)])), (yz, .inl (cI, 3, .inl (zf ko kn kr)))] (fun (vV : Option Value) (uU : va_W) => vV = some (.int (-1)) ∧ uU = [(m0, .inr (5, [.ref yb, .ref yz, .ref ye, .int (nI dz), .int (nI sz), .int (nI wz), .int (nI bz), .int (nI uS), .int (nI uW), .ref ys, .ref yg, .int (nI mr), .int (nI ml), .int (nI mw), .int (nI ma), .ref yf, .ref yh, .ref yw, .ref yn, .ref yt, .ref yl, .int (nI tz)])), (yz, .inl (cI, 3, .inl (zf ko kn kr)))]) := by
  refine k_entry (lv0 := [(0, .ref m0), (1, .int 1), (2, .int v)]) (by decide) (Nat.le_of_ble_eq_true rfl) rfl ?_
  intro zp ze zs zm zb zt zc zA X hr hin
  refine k_iload_n X dX5_feed_0 rfl 1 rfl ?_
  refine k_callS (wc := []) (wr := [(m0, .inr (5, [.ref yb, .ref yz, .ref ye, .int (nI dz), .int (nI sz), .int (nI wz), .int (nI bz), .int (nI uS), .int (nI uW), .ref ys, .ref yg, .int (nI mr), .int (nI ml), .int (nI mw), .int (nI ma), .ref yf, .ref yh, .ref yw, .ref yn, .ref yt, .ref yl, .int (nI tz)])), (yz, .inl (cI, 3, .inl (zf ko kn kr)))]) (As := [.int 1]) (n := 1) (st := []) X (m_isFile_1 l D cI cB  ) ml_X5_121 sm_X5_isFile ini_X5 co_X5_isFile (by decide +kernel) rfl ⟨Nat.le_of_ble_eq_true rfl, Nat.le_of_ble_eq_true rfl⟩ (⟨by (try dsimp only); omega, by (try dsimp only); omega⟩) (Nat.le_of_ble_eq_true rfl) [] [0, 1] rfl rfl rfl (by decide) (by decide) (by decide) rfl dX5_feed_1 (fun v_1 u_1 hu_1 => ?_)
  obtain ⟨rfl, rfl⟩ := hu_1
  refine k_to (ws' := [(m0, .inr (5, [.ref yb, .ref yz, .ref ye, .int (nI dz), .int (nI sz), .int (nI wz), .int (nI bz), .int (nI uS), .int (nI uW), .ref ys, .ref yg, .int (nI mr), .int (nI ml), .int (nI mw), .int (nI ma), .ref yf, .ref yh, .ref yw, .ref yn, .ref yt, .ref yl, .int (nI tz)])), (yz, .inl (cI, 3, .inl (zf ko kn kr)))]) (st' := [.int 1]) rfl rfl ?_
  refine k_if_eq (tgt := 21) (xi := (1 : Int)) X (by decide) dX5_feed_4 (by decide) (fun c_4 => ?_) (fun c_4 => ?_)
  · exact absurd c_4 (by decide)
  · refine k_aload_n X dX5_feed_7 rfl 0 rfl ?_
    refine k_get (v := .ref yz) X 0 5 1 rfl rfl (by decide) fl_X5_13 in_X5 rfl rfl dX5_feed_8 ?_
    refine k_iload_n X dX5_feed_11 rfl 1 rfl ?_
    refine k_iald (v := (zf ko kn kr) 1) X 1 rfl (vp_in_nI (n := 1) (by omega) (by omega)) (by rw [show ((1 : Int32).toNatClampNeg) = 1 from rfl]) dX5_feed_12 ?_
    refine k_as (y := nI kn) (rfl) ?_
    refine k_iconst (v := 4) X dX5_feed_13 (by decide) ?_
    refine k_iadd X dX5_feed_14 ?_
    refine k_as (y := nI (kn + 4)) (nI_add kn 4) ?_
    refine k_sipush (v := 2000) X dX5_feed_15 (by decide) ?_
    refine k_icmp_le (tgt := 23) (xi := (((kn + 4) : Nat) : Int)) (yi := (2000 : Int)) X (nI_toInt (by omega)) (by decide) dX5_feed_18 (by decide) (fun c_18 => ?_) (fun c_18 => ?_)
    · exact absurd c_18 (by omega)
    · refine k_iconst (v := -1) X dX5_feed_21 (by decide) ?_
      exact k_iret (u := [(m0, .inr (5, [.ref yb, .ref yz, .ref ye, .int (nI dz), .int (nI sz), .int (nI wz), .int (nI bz), .int (nI uS), .int (nI uW), .ref ys, .ref yg, .int (nI mr), .int (nI ml), .int (nI mw), .int (nI ma), .ref yf, .ref yh, .ref yw, .ref yn, .ref yt, .ref yl, .int (nI tz)])), (yz, .inl (cI, 3, .inl (zf ko kn kr)))]) X hr [0, 1] (by decide) rfl rfl (⟨rfl, rfl⟩) (by (try dsimp only); omega) (by (try dsimp only); omega) dX5_feed_22
set_option maxHeartbeats 4000000 in
set_option maxRecDepth 100000 in
theorem m_feed_f (l : Launch) (D : va_G) (cI cB : ClassId) (m0 : Nat) (yb : Nat) (yz : Nat) (ye : Nat) (ys : Nat) (yg : Nat) (yf : Nat) (yh : Nat) (yw : Nat) (yn : Nat) (yt : Nat) (yl : Nat) (dz : Nat) (sz : Nat) (wz : Nat) (bz : Nat) (uS : Nat) (uW : Nat) (mr : Nat) (ml : Nat) (mw : Nat) (ma : Nat) (tz : Nat) (wh : Int32) (v : Int32) (hwh : ¬ wh.toInt = 0 ∧ ¬ wh.toInt = 1) : kC l yX5_feed cX5_feed 4 (some .int) 1 20 (0) (0) D cI cB [.ref m0, .int wh, .int v] [(m0, .inr (5, [.ref yb, .ref yz, .ref ye, .int (nI dz), .int (nI sz), .int (nI wz), .int (nI bz), .int (nI uS), .int (nI uW), .ref ys, .ref yg, .int (nI mr), .int (nI ml), .int (nI mw), .int (nI ma), .ref yf, .ref yh, .ref yw, .ref yn, .ref yt, .ref yl, .int (nI tz)]))] (fun (vV : Option Value) (uU : va_W) => vV = some (.int (-1)) ∧ uU = [(m0, .inr (5, [.ref yb, .ref yz, .ref ye, .int (nI dz), .int (nI sz), .int (nI wz), .int (nI bz), .int (nI uS), .int (nI uW), .ref ys, .ref yg, .int (nI mr), .int (nI ml), .int (nI mw), .int (nI ma), .ref yf, .ref yh, .ref yw, .ref yn, .ref yt, .ref yl, .int (nI tz)]))]) := by
  refine k_entry (lv0 := [(0, .ref m0), (1, .int wh), (2, .int v)]) (by decide) (Nat.le_of_ble_eq_true rfl) rfl ?_
  intro zp ze zs zm zb zt zc zA X hr hin
  refine k_iload_n X dX5_feed_0 rfl 1 rfl ?_
  refine k_callS (wc := []) (wr := [(m0, .inr (5, [.ref yb, .ref yz, .ref ye, .int (nI dz), .int (nI sz), .int (nI wz), .int (nI bz), .int (nI uS), .int (nI uW), .ref ys, .ref yg, .int (nI mr), .int (nI ml), .int (nI mw), .int (nI ma), .ref yf, .ref yh, .ref yw, .ref yn, .ref yt, .ref yl, .int (nI tz)]))]) (As := [.int wh]) (n := 1) (st := []) X (m_isFile_f l D cI cB wh (hwh)) ml_X5_121 sm_X5_isFile ini_X5 co_X5_isFile (by decide +kernel) rfl ⟨Nat.le_of_ble_eq_true rfl, Nat.le_of_ble_eq_true rfl⟩ (⟨by (try dsimp only); omega, by (try dsimp only); omega⟩) (Nat.le_of_ble_eq_true rfl) [] [0] rfl rfl rfl (by decide) (by decide) (by decide) rfl dX5_feed_1 (fun v_1 u_1 hu_1 => ?_)
  obtain ⟨rfl, rfl⟩ := hu_1
  refine k_to (ws' := [(m0, .inr (5, [.ref yb, .ref yz, .ref ye, .int (nI dz), .int (nI sz), .int (nI wz), .int (nI bz), .int (nI uS), .int (nI uW), .ref ys, .ref yg, .int (nI mr), .int (nI ml), .int (nI mw), .int (nI ma), .ref yf, .ref yh, .ref yw, .ref yn, .ref yt, .ref yl, .int (nI tz)]))]) (st' := [.int 0]) rfl rfl ?_
  refine k_if_eq (tgt := 21) (xi := (0 : Int)) X (by decide) dX5_feed_4 (by decide) (fun c_4 => ?_) (fun c_4 => ?_)
  · refine k_iconst (v := -1) X dX5_feed_21 (by decide) ?_
    exact k_iret (u := [(m0, .inr (5, [.ref yb, .ref yz, .ref ye, .int (nI dz), .int (nI sz), .int (nI wz), .int (nI bz), .int (nI uS), .int (nI uW), .ref ys, .ref yg, .int (nI mr), .int (nI ml), .int (nI mw), .int (nI ma), .ref yf, .ref yh, .ref yw, .ref yn, .ref yt, .ref yl, .int (nI tz)]))]) X hr [0] (by decide) rfl rfl (⟨rfl, rfl⟩) (by (try dsimp only); omega) (by (try dsimp only); omega) dX5_feed_22
  · exact absurd c_4 (by decide)
set_option maxHeartbeats 4000000 in
set_option maxRecDepth 100000 in
theorem m_cut_0 (l : Launch) (D : va_G) (cI cB : ClassId) (m0 : Nat) (yb : Nat) (yz : Nat) (ye : Nat) (ys : Nat) (yg : Nat) (yf : Nat) (yh : Nat) (yw : Nat) (yn : Nat) (yt : Nat) (yl : Nat) (dz : Nat) (sz : Nat) (wz : Nat) (bz : Nat) (uS : Nat) (uW : Nat) (mr : Nat) (ml : Nat) (mw : Nat) (ma : Nat) (tz : Nat) (ko : Nat) (kn : Nat) (kr : Nat) (x : Int32) (hk : ko ≤ 2000) : kC l yX5_cut cX5_cut 3 (some .boolean) 1 20 (0) (0) D cI cB [.ref m0, .int 0, .int x] [(m0, .inr (5, [.ref yb, .ref yz, .ref ye, .int (nI dz), .int (nI sz), .int (nI wz), .int (nI bz), .int (nI uS), .int (nI uW), .ref ys, .ref yg, .int (nI mr), .int (nI ml), .int (nI mw), .int (nI ma), .ref yf, .ref yh, .ref yw, .ref yn, .ref yt, .ref yl, .int (nI tz)])), (yz, .inl (cI, 3, .inl (zf ko kn kr)))] (fun (vV : Option Value) (uU : va_W) => vV = some (.int (b2i (decide (0 ≤ x.toInt ∧ x.toInt ≤ ko)))) ∧ uU = [(m0, .inr (5, [.ref yb, .ref yz, .ref ye, .int (nI dz), .int (nI sz), .int (nI wz), .int (nI bz), .int (nI uS), .int (nI uW), .ref ys, .ref yg, .int (nI mr), .int (nI ml), .int (nI mw), .int (nI ma), .ref yf, .ref yh, .ref yw, .ref yn, .ref yt, .ref yl, .int (nI tz)])), (yz, .inl (cI, 3, .inl (zf (if 0 ≤ x.toInt ∧ x.toInt ≤ ko then x.toNatClampNeg else ko) kn kr)))]) := by
  refine k_entry (lv0 := [(0, .ref m0), (1, .int 0), (2, .int x)]) (by decide) (Nat.le_of_ble_eq_true rfl) rfl ?_
  intro zp ze zs zm zb zt zc zA X hr hin
  refine k_iload_n X dX5_cut_0 rfl 1 rfl ?_
  refine k_callS (wc := []) (wr := [(m0, .inr (5, [.ref yb, .ref yz, .ref ye, .int (nI dz), .int (nI sz), .int (nI wz), .int (nI bz), .int (nI uS), .int (nI uW), .ref ys, .ref yg, .int (nI mr), .int (nI ml), .int (nI mw), .int (nI ma), .ref yf, .ref yh, .ref yw, .ref yn, .ref yt, .ref yl, .int (nI tz)])), (yz, .inl (cI, 3, .inl (zf ko kn kr)))]) (As := [.int 0]) (n := 1) (st := []) X (m_isFile_0 l D cI cB  ) ml_X5_121 sm_X5_isFile ini_X5 co_X5_isFile (by decide +kernel) rfl ⟨Nat.le_of_ble_eq_true rfl, Nat.le_of_ble_eq_true rfl⟩ (⟨by (try dsimp only); omega, by (try dsimp only); omega⟩) (Nat.le_of_ble_eq_true rfl) [] [0, 1] rfl rfl rfl (by decide) (by decide) (by decide) rfl dX5_cut_1 (fun v_1 u_1 hu_1 => ?_)
  obtain ⟨rfl, rfl⟩ := hu_1
  refine k_to (ws' := [(m0, .inr (5, [.ref yb, .ref yz, .ref ye, .int (nI dz), .int (nI sz), .int (nI wz), .int (nI bz), .int (nI uS), .int (nI uW), .ref ys, .ref yg, .int (nI mr), .int (nI ml), .int (nI mw), .int (nI ma), .ref yf, .ref yh, .ref yw, .ref yn, .ref yt, .ref yl, .int (nI tz)])), (yz, .inl (cI, 3, .inl (zf ko kn kr)))]) (st' := [.int 1]) rfl rfl ?_
  refine k_if_eq (tgt := 21) (xi := (1 : Int)) X (by decide) dX5_cut_4 (by decide) (fun c_4 => ?_) (fun c_4 => ?_)
  · exact absurd c_4 (by decide)
  · refine k_iload_n X dX5_cut_7 rfl 2 rfl ?_
    refine k_if_lt (tgt := 21) (xi := x.toInt) X (rfl) dX5_cut_8 (by decide) (fun c_8 => ?_) (fun c_8 => ?_)
    · refine k_iconst (v := 0) X dX5_cut_21 (by decide) ?_
      exact k_zret (u := [(m0, .inr (5, [.ref yb, .ref yz, .ref ye, .int (nI dz), .int (nI sz), .int (nI wz), .int (nI bz), .int (nI uS), .int (nI uW), .ref ys, .ref yg, .int (nI mr), .int (nI ml), .int (nI mw), .int (nI ma), .ref yf, .ref yh, .ref yw, .ref yn, .ref yt, .ref yl, .int (nI tz)])), (yz, .inl (cI, 3, .inl (zf ko kn kr)))]) X (by first | rfl | exact b2i_nar _ | decide) hr [0, 1] (by decide) rfl rfl (⟨by rw [b2i_f (by omega)], by rw [if_neg (by omega)]⟩) (by (try dsimp only); omega) (by (try dsimp only); omega) dX5_cut_22
    · refine k_iload_n X dX5_cut_11 rfl 2 rfl ?_
      refine k_aload_n X dX5_cut_12 rfl 0 rfl ?_
      refine k_get (v := .ref yz) X 0 5 1 rfl rfl (by decide) fl_X5_13 in_X5 rfl rfl dX5_cut_13 ?_
      refine k_iload_n X dX5_cut_16 rfl 1 rfl ?_
      refine k_iald (v := (zf ko kn kr) 0) X 1 rfl (vp_in_nI (n := 0) (by omega) (by omega)) (by rw [show ((0 : Int32).toNatClampNeg) = 0 from rfl]) dX5_cut_17 ?_
      refine k_as (y := nI ko) (rfl) ?_
      refine k_icmp_le (tgt := 23) (xi := x.toInt) (yi := ((ko : Nat) : Int)) X (rfl) (nI_toInt (by omega)) dX5_cut_18 (by decide) (fun c_18 => ?_) (fun c_18 => ?_)
      · refine k_aload_n X dX5_cut_23 rfl 0 rfl ?_
        refine k_get (v := .ref yz) X 0 5 1 rfl rfl (by decide) fl_X5_13 in_X5 rfl rfl dX5_cut_24 ?_
        refine k_iload_n X dX5_cut_27 rfl 1 rfl ?_
        refine k_iload_n X dX5_cut_28 rfl 2 rfl ?_
        refine k_as (y := nI x.toNatClampNeg) ((i_of (n := ko + 1) (by omega) (by omega)).2.1) ?_
        refine k_iast (f' := upd (zf ko kn kr) 0 (nI x.toNatClampNeg)) (ws' := [(m0, .inr (5, [.ref yb, .ref yz, .ref ye, .int (nI dz), .int (nI sz), .int (nI wz), .int (nI bz), .int (nI uS), .int (nI uW), .ref ys, .ref yg, .int (nI mr), .int (nI ml), .int (nI mw), .int (nI ma), .ref yf, .ref yh, .ref yw, .ref yn, .ref yt, .ref yl, .int (nI tz)])), (yz, .inl (cI, 3, .inl (upd (zf ko kn kr) 0 (nI x.toNatClampNeg))))]) X 1 rfl (vp_in_nI (n := 0) (by omega) (by omega)) (by rw [show ((0 : Int32).toNatClampNeg) = 0 from rfl]) rfl dX5_cut_29 ?_
        refine k_iconst (v := 1) X dX5_cut_30 (by decide) ?_
        exact k_zret (u := [(m0, .inr (5, [.ref yb, .ref yz, .ref ye, .int (nI dz), .int (nI sz), .int (nI wz), .int (nI bz), .int (nI uS), .int (nI uW), .ref ys, .ref yg, .int (nI mr), .int (nI ml), .int (nI mw), .int (nI ma), .ref yf, .ref yh, .ref yw, .ref yn, .ref yt, .ref yl, .int (nI tz)])), (yz, .inl (cI, 3, .inl (upd (zf ko kn kr) 0 (nI x.toNatClampNeg))))]) X (by first | rfl | exact b2i_nar _ | decide) hr [0, 1] (by decide) rfl rfl (⟨by rw [b2i_t (by omega)], by rw [if_pos (by omega), zf_0]⟩) (by (try dsimp only); omega) (by (try dsimp only); omega) dX5_cut_31
      · refine k_iconst (v := 0) X dX5_cut_21 (by decide) ?_
        exact k_zret (u := [(m0, .inr (5, [.ref yb, .ref yz, .ref ye, .int (nI dz), .int (nI sz), .int (nI wz), .int (nI bz), .int (nI uS), .int (nI uW), .ref ys, .ref yg, .int (nI mr), .int (nI ml), .int (nI mw), .int (nI ma), .ref yf, .ref yh, .ref yw, .ref yn, .ref yt, .ref yl, .int (nI tz)])), (yz, .inl (cI, 3, .inl (zf ko kn kr)))]) X (by first | rfl | exact b2i_nar _ | decide) hr [0, 1] (by decide) rfl rfl (⟨by rw [b2i_f (by omega)], by rw [if_neg (by omega)]⟩) (by (try dsimp only); omega) (by (try dsimp only); omega) dX5_cut_22
set_option maxHeartbeats 4000000 in
set_option maxRecDepth 100000 in
theorem m_put_0 (l : Launch) (D : va_G) (cI cB : ClassId) (m0 : Nat) (yb : Nat) (yz : Nat) (ye : Nat) (ys : Nat) (yg : Nat) (yf : Nat) (yh : Nat) (yw : Nat) (yn : Nat) (yt : Nat) (yl : Nat) (dz : Nat) (sz : Nat) (wz : Nat) (bz : Nat) (uS : Nat) (uW : Nat) (mr : Nat) (ml : Nat) (mw : Nat) (ma : Nat) (tz : Nat) (B : Nat → Int32) (ko : Nat) (kn : Nat) (kr : Nat) (x : Int32) (b : Int32) (hk : ko ≤ 2000) : kC l yX5_put cX5_put 4 (some .boolean) 1 20 (0) (0) D cI cB [.ref m0, .int 0, .int x, .int b] [(m0, .inr (5, [.ref yb, .ref yz, .ref ye, .int (nI dz), .int (nI sz), .int (nI wz), .int (nI bz), .int (nI uS), .int (nI uW), .ref ys, .ref yg, .int (nI mr), .int (nI ml), .int (nI mw), .int (nI ma), .ref yf, .ref yh, .ref yw, .ref yn, .ref yt, .ref yl, .int (nI tz)])), (yb, .inl (cB, 6000, .inl B)), (yz, .inl (cI, 3, .inl (zf ko kn kr)))] (fun (vV : Option Value) (uU : va_W) => vV = some (.int (b2i (decide (rIn x ko ∧ rByte b)))) ∧ uU = [(m0, .inr (5, [.ref yb, .ref yz, .ref ye, .int (nI dz), .int (nI sz), .int (nI wz), .int (nI bz), .int (nI uS), .int (nI uW), .ref ys, .ref yg, .int (nI mr), .int (nI ml), .int (nI mw), .int (nI ma), .ref yf, .ref yh, .ref yw, .ref yn, .ref yt, .ref yl, .int (nI tz)])), (yb, .inl (cB, 6000, .inl (if rIn x ko ∧ rByte b then upd B (0 + x.toNatClampNeg) b.toInt8.toInt32 else B))), (yz, .inl (cI, 3, .inl (zf ko kn kr)))]) := by
  refine k_entry (lv0 := [(0, .ref m0), (1, .int 0), (2, .int x), (3, .int b)]) (by decide) (Nat.le_of_ble_eq_true rfl) rfl ?_
  intro zp ze zs zm zb zt zc zA X hr hin
  refine k_iload_n X dX5_put_0 rfl 1 rfl ?_
  refine k_callS (wc := []) (wr := [(m0, .inr (5, [.ref yb, .ref yz, .ref ye, .int (nI dz), .int (nI sz), .int (nI wz), .int (nI bz), .int (nI uS), .int (nI uW), .ref ys, .ref yg, .int (nI mr), .int (nI ml), .int (nI mw), .int (nI ma), .ref yf, .ref yh, .ref yw, .ref yn, .ref yt, .ref yl, .int (nI tz)])), (yb, .inl (cB, 6000, .inl B)), (yz, .inl (cI, 3, .inl (zf ko kn kr)))]) (As := [.int 0]) (n := 1) (st := []) X (m_isFile_0 l D cI cB  ) ml_X5_121 sm_X5_isFile ini_X5 co_X5_isFile (by decide +kernel) rfl ⟨Nat.le_of_ble_eq_true rfl, Nat.le_of_ble_eq_true rfl⟩ (⟨by (try dsimp only); omega, by (try dsimp only); omega⟩) (Nat.le_of_ble_eq_true rfl) [] [0, 1, 2] rfl rfl rfl (by decide) (by decide) (by decide) rfl dX5_put_1 (fun v_1 u_1 hu_1 => ?_)
  obtain ⟨rfl, rfl⟩ := hu_1
  refine k_to (ws' := [(m0, .inr (5, [.ref yb, .ref yz, .ref ye, .int (nI dz), .int (nI sz), .int (nI wz), .int (nI bz), .int (nI uS), .int (nI uW), .ref ys, .ref yg, .int (nI mr), .int (nI ml), .int (nI mw), .int (nI ma), .ref yf, .ref yh, .ref yw, .ref yn, .ref yt, .ref yl, .int (nI tz)])), (yb, .inl (cB, 6000, .inl B)), (yz, .inl (cI, 3, .inl (zf ko kn kr)))]) (st' := [.int 1]) rfl rfl ?_
  refine k_if_eq (tgt := 32) (xi := (1 : Int)) X (by decide) dX5_put_4 (by decide) (fun c_4 => ?_) (fun c_4 => ?_)
  · exact absurd c_4 (by decide)
  · refine k_iload_n X dX5_put_7 rfl 2 rfl ?_
    refine k_if_lt (tgt := 32) (xi := x.toInt) X (rfl) dX5_put_8 (by decide) (fun c_8 => ?_) (fun c_8 => ?_)
    · refine k_iconst (v := 0) X dX5_put_32 (by decide) ?_
      exact k_zret (u := [(m0, .inr (5, [.ref yb, .ref yz, .ref ye, .int (nI dz), .int (nI sz), .int (nI wz), .int (nI bz), .int (nI uS), .int (nI uW), .ref ys, .ref yg, .int (nI mr), .int (nI ml), .int (nI mw), .int (nI ma), .ref yf, .ref yh, .ref yw, .ref yn, .ref yt, .ref yl, .int (nI tz)])), (yb, .inl (cB, 6000, .inl B)), (yz, .inl (cI, 3, .inl (zf ko kn kr)))]) X (by first | rfl | exact b2i_nar _ | decide) hr [0, 1, 2] (by decide) rfl rfl (⟨by rw [b2i_f (by omega)], by rw [if_neg (by omega)]⟩) (by (try dsimp only); omega) (by (try dsimp only); omega) dX5_put_33
    · refine k_iload_n X dX5_put_11 rfl 2 rfl ?_
      refine k_aload_n X dX5_put_12 rfl 0 rfl ?_
      refine k_get (v := .ref yz) X 0 5 1 rfl rfl (by decide) fl_X5_13 in_X5 rfl rfl dX5_put_13 ?_
      refine k_iload_n X dX5_put_16 rfl 1 rfl ?_
      refine k_iald (v := (zf ko kn kr) 0) X 2 rfl (vp_in_nI (n := 0) (by omega) (by omega)) (by rw [show ((0 : Int32).toNatClampNeg) = 0 from rfl]) dX5_put_17 ?_
      refine k_as (y := nI ko) (rfl) ?_
      refine k_icmp_ge (tgt := 32) (xi := x.toInt) (yi := ((ko : Nat) : Int)) X (rfl) (nI_toInt (by omega)) dX5_put_18 (by decide) (fun c_18 => ?_) (fun c_18 => ?_)
      · refine k_iconst (v := 0) X dX5_put_32 (by decide) ?_
        exact k_zret (u := [(m0, .inr (5, [.ref yb, .ref yz, .ref ye, .int (nI dz), .int (nI sz), .int (nI wz), .int (nI bz), .int (nI uS), .int (nI uW), .ref ys, .ref yg, .int (nI mr), .int (nI ml), .int (nI mw), .int (nI ma), .ref yf, .ref yh, .ref yw, .ref yn, .ref yt, .ref yl, .int (nI tz)])), (yb, .inl (cB, 6000, .inl B)), (yz, .inl (cI, 3, .inl (zf ko kn kr)))]) X (by first | rfl | exact b2i_nar _ | decide) hr [0, 1, 2] (by decide) rfl rfl (⟨by rw [b2i_f (by omega)], by rw [if_neg (by omega)]⟩) (by (try dsimp only); omega) (by (try dsimp only); omega) dX5_put_33
      · refine k_iload_n X dX5_put_21 rfl 3 rfl ?_
        refine k_if_lt (tgt := 32) (xi := b.toInt) X (rfl) dX5_put_22 (by decide) (fun c_22 => ?_) (fun c_22 => ?_)
        · refine k_iconst (v := 0) X dX5_put_32 (by decide) ?_
          exact k_zret (u := [(m0, .inr (5, [.ref yb, .ref yz, .ref ye, .int (nI dz), .int (nI sz), .int (nI wz), .int (nI bz), .int (nI uS), .int (nI uW), .ref ys, .ref yg, .int (nI mr), .int (nI ml), .int (nI mw), .int (nI ma), .ref yf, .ref yh, .ref yw, .ref yn, .ref yt, .ref yl, .int (nI tz)])), (yb, .inl (cB, 6000, .inl B)), (yz, .inl (cI, 3, .inl (zf ko kn kr)))]) X (by first | rfl | exact b2i_nar _ | decide) hr [0, 1, 2] (by decide) rfl rfl (⟨by rw [b2i_f (by omega)], by rw [if_neg (by omega)]⟩) (by (try dsimp only); omega) (by (try dsimp only); omega) dX5_put_33
        · refine k_iload_n X dX5_put_25 rfl 3 rfl ?_
          refine k_sipush (v := 255) X dX5_put_26 (by decide) ?_
          refine k_icmp_le (tgt := 34) (xi := b.toInt) (yi := (255 : Int)) X (rfl) (by decide) dX5_put_29 (by decide) (fun c_29 => ?_) (fun c_29 => ?_)
          · refine k_aload_n X dX5_put_34 rfl 0 rfl ?_
            refine k_get (v := .ref yb) X 0 5 0 rfl rfl (by decide) fl_X5_7 in_X5 rfl rfl dX5_put_35 ?_
            refine k_sipush (v := 2000) X dX5_put_38 (by decide) ?_
            refine k_iload_n X dX5_put_41 rfl 1 rfl ?_
            refine k_imul X dX5_put_42 ?_
            refine k_as (y := 0) (by decide) ?_
            refine k_iload_n X dX5_put_43 rfl 2 rfl ?_
            refine k_iadd X dX5_put_44 ?_
            have hxN := i_of (x := x) (n := ko) (by omega) (by omega)
            refine k_as (y := nI (0 + x.toNatClampNeg)) ((congrArg (fun y : Int32 => ((0 : Int32)) + y) hxN.2.1).trans (nI_add 0 _)) ?_
            refine k_iload_n X dX5_put_45 rfl 3 rfl ?_
            refine k_i2b (v := b.toInt8.toInt32) X dX5_put_46 rfl ?_
            refine k_bast (f' := upd B (0 + x.toNatClampNeg) (vp_nar .byte b.toInt8.toInt32)) (ws' := [(m0, .inr (5, [.ref yb, .ref yz, .ref ye, .int (nI dz), .int (nI sz), .int (nI wz), .int (nI bz), .int (nI uS), .int (nI uW), .ref ys, .ref yg, .int (nI mr), .int (nI ml), .int (nI mw), .int (nI ma), .ref yf, .ref yh, .ref yw, .ref yn, .ref yt, .ref yl, .int (nI tz)])), (yb, .inl (cB, 6000, .inl (upd B (0 + x.toNatClampNeg) (vp_nar .byte b.toInt8.toInt32)))), (yz, .inl (cI, 3, .inl (zf ko kn kr)))]) X 1 rfl (vp_in_nI (n := 0 + x.toNatClampNeg) (by omega) (by omega)) (by rw [nI_clamp (n := 0 + x.toNatClampNeg) (by omega)]) rfl dX5_put_47 ?_
            refine k_iconst (v := 1) X dX5_put_48 (by decide) ?_
            exact k_zret (u := [(m0, .inr (5, [.ref yb, .ref yz, .ref ye, .int (nI dz), .int (nI sz), .int (nI wz), .int (nI bz), .int (nI uS), .int (nI uW), .ref ys, .ref yg, .int (nI mr), .int (nI ml), .int (nI mw), .int (nI ma), .ref yf, .ref yh, .ref yw, .ref yn, .ref yt, .ref yl, .int (nI tz)])), (yb, .inl (cB, 6000, .inl (upd B (0 + x.toNatClampNeg) (vp_nar .byte b.toInt8.toInt32)))), (yz, .inl (cI, 3, .inl (zf ko kn kr)))]) X (by first | rfl | exact b2i_nar _ | decide) hr [0, 1, 2] (by decide) rfl rfl (⟨by rw [b2i_t (by omega)], by rw [if_pos (by omega), pk_vb]⟩) (by (try dsimp only); omega) (by (try dsimp only); omega) dX5_put_49
          · refine k_iconst (v := 0) X dX5_put_32 (by decide) ?_
            exact k_zret (u := [(m0, .inr (5, [.ref yb, .ref yz, .ref ye, .int (nI dz), .int (nI sz), .int (nI wz), .int (nI bz), .int (nI uS), .int (nI uW), .ref ys, .ref yg, .int (nI mr), .int (nI ml), .int (nI mw), .int (nI ma), .ref yf, .ref yh, .ref yw, .ref yn, .ref yt, .ref yl, .int (nI tz)])), (yb, .inl (cB, 6000, .inl B)), (yz, .inl (cI, 3, .inl (zf ko kn kr)))]) X (by first | rfl | exact b2i_nar _ | decide) hr [0, 1, 2] (by decide) rfl rfl (⟨by rw [b2i_f (by omega)], by rw [if_neg (by omega)]⟩) (by (try dsimp only); omega) (by (try dsimp only); omega) dX5_put_33
set_option maxHeartbeats 4000000 in
set_option maxRecDepth 100000 in
theorem m_cut_1 (l : Launch) (D : va_G) (cI cB : ClassId) (m0 : Nat) (yb : Nat) (yz : Nat) (ye : Nat) (ys : Nat) (yg : Nat) (yf : Nat) (yh : Nat) (yw : Nat) (yn : Nat) (yt : Nat) (yl : Nat) (dz : Nat) (sz : Nat) (wz : Nat) (bz : Nat) (uS : Nat) (uW : Nat) (mr : Nat) (ml : Nat) (mw : Nat) (ma : Nat) (tz : Nat) (ko : Nat) (kn : Nat) (kr : Nat) (x : Int32) (hk : kn ≤ 2000) : kC l yX5_cut cX5_cut 3 (some .boolean) 1 20 (0) (0) D cI cB [.ref m0, .int 1, .int x] [(m0, .inr (5, [.ref yb, .ref yz, .ref ye, .int (nI dz), .int (nI sz), .int (nI wz), .int (nI bz), .int (nI uS), .int (nI uW), .ref ys, .ref yg, .int (nI mr), .int (nI ml), .int (nI mw), .int (nI ma), .ref yf, .ref yh, .ref yw, .ref yn, .ref yt, .ref yl, .int (nI tz)])), (yz, .inl (cI, 3, .inl (zf ko kn kr)))] (fun (vV : Option Value) (uU : va_W) => vV = some (.int (b2i (decide (0 ≤ x.toInt ∧ x.toInt ≤ kn)))) ∧ uU = [(m0, .inr (5, [.ref yb, .ref yz, .ref ye, .int (nI dz), .int (nI sz), .int (nI wz), .int (nI bz), .int (nI uS), .int (nI uW), .ref ys, .ref yg, .int (nI mr), .int (nI ml), .int (nI mw), .int (nI ma), .ref yf, .ref yh, .ref yw, .ref yn, .ref yt, .ref yl, .int (nI tz)])), (yz, .inl (cI, 3, .inl (zf ko (if 0 ≤ x.toInt ∧ x.toInt ≤ kn then x.toNatClampNeg else kn) kr)))]) := by
  refine k_entry (lv0 := [(0, .ref m0), (1, .int 1), (2, .int x)]) (by decide) (Nat.le_of_ble_eq_true rfl) rfl ?_
  intro zp ze zs zm zb zt zc zA X hr hin
  refine k_iload_n X dX5_cut_0 rfl 1 rfl ?_
  refine k_callS (wc := []) (wr := [(m0, .inr (5, [.ref yb, .ref yz, .ref ye, .int (nI dz), .int (nI sz), .int (nI wz), .int (nI bz), .int (nI uS), .int (nI uW), .ref ys, .ref yg, .int (nI mr), .int (nI ml), .int (nI mw), .int (nI ma), .ref yf, .ref yh, .ref yw, .ref yn, .ref yt, .ref yl, .int (nI tz)])), (yz, .inl (cI, 3, .inl (zf ko kn kr)))]) (As := [.int 1]) (n := 1) (st := []) X (m_isFile_1 l D cI cB  ) ml_X5_121 sm_X5_isFile ini_X5 co_X5_isFile (by decide +kernel) rfl ⟨Nat.le_of_ble_eq_true rfl, Nat.le_of_ble_eq_true rfl⟩ (⟨by (try dsimp only); omega, by (try dsimp only); omega⟩) (Nat.le_of_ble_eq_true rfl) [] [0, 1] rfl rfl rfl (by decide) (by decide) (by decide) rfl dX5_cut_1 (fun v_1 u_1 hu_1 => ?_)
  obtain ⟨rfl, rfl⟩ := hu_1
  refine k_to (ws' := [(m0, .inr (5, [.ref yb, .ref yz, .ref ye, .int (nI dz), .int (nI sz), .int (nI wz), .int (nI bz), .int (nI uS), .int (nI uW), .ref ys, .ref yg, .int (nI mr), .int (nI ml), .int (nI mw), .int (nI ma), .ref yf, .ref yh, .ref yw, .ref yn, .ref yt, .ref yl, .int (nI tz)])), (yz, .inl (cI, 3, .inl (zf ko kn kr)))]) (st' := [.int 1]) rfl rfl ?_
  refine k_if_eq (tgt := 21) (xi := (1 : Int)) X (by decide) dX5_cut_4 (by decide) (fun c_4 => ?_) (fun c_4 => ?_)
  · exact absurd c_4 (by decide)
  · refine k_iload_n X dX5_cut_7 rfl 2 rfl ?_
    refine k_if_lt (tgt := 21) (xi := x.toInt) X (rfl) dX5_cut_8 (by decide) (fun c_8 => ?_) (fun c_8 => ?_)
    · refine k_iconst (v := 0) X dX5_cut_21 (by decide) ?_
      exact k_zret (u := [(m0, .inr (5, [.ref yb, .ref yz, .ref ye, .int (nI dz), .int (nI sz), .int (nI wz), .int (nI bz), .int (nI uS), .int (nI uW), .ref ys, .ref yg, .int (nI mr), .int (nI ml), .int (nI mw), .int (nI ma), .ref yf, .ref yh, .ref yw, .ref yn, .ref yt, .ref yl, .int (nI tz)])), (yz, .inl (cI, 3, .inl (zf ko kn kr)))]) X (by first | rfl | exact b2i_nar _ | decide) hr [0, 1] (by decide) rfl rfl (⟨by rw [b2i_f (by omega)], by rw [if_neg (by omega)]⟩) (by (try dsimp only); omega) (by (try dsimp only); omega) dX5_cut_22
    · refine k_iload_n X dX5_cut_11 rfl 2 rfl ?_
      refine k_aload_n X dX5_cut_12 rfl 0 rfl ?_
      refine k_get (v := .ref yz) X 0 5 1 rfl rfl (by decide) fl_X5_13 in_X5 rfl rfl dX5_cut_13 ?_
      refine k_iload_n X dX5_cut_16 rfl 1 rfl ?_
      refine k_iald (v := (zf ko kn kr) 1) X 1 rfl (vp_in_nI (n := 1) (by omega) (by omega)) (by rw [show ((1 : Int32).toNatClampNeg) = 1 from rfl]) dX5_cut_17 ?_
      refine k_as (y := nI kn) (rfl) ?_
      refine k_icmp_le (tgt := 23) (xi := x.toInt) (yi := ((kn : Nat) : Int)) X (rfl) (nI_toInt (by omega)) dX5_cut_18 (by decide) (fun c_18 => ?_) (fun c_18 => ?_)
      · refine k_aload_n X dX5_cut_23 rfl 0 rfl ?_
        refine k_get (v := .ref yz) X 0 5 1 rfl rfl (by decide) fl_X5_13 in_X5 rfl rfl dX5_cut_24 ?_
        refine k_iload_n X dX5_cut_27 rfl 1 rfl ?_
        refine k_iload_n X dX5_cut_28 rfl 2 rfl ?_
        refine k_as (y := nI x.toNatClampNeg) ((i_of (n := kn + 1) (by omega) (by omega)).2.1) ?_
        refine k_iast (f' := upd (zf ko kn kr) 1 (nI x.toNatClampNeg)) (ws' := [(m0, .inr (5, [.ref yb, .ref yz, .ref ye, .int (nI dz), .int (nI sz), .int (nI wz), .int (nI bz), .int (nI uS), .int (nI uW), .ref ys, .ref yg, .int (nI mr), .int (nI ml), .int (nI mw), .int (nI ma), .ref yf, .ref yh, .ref yw, .ref yn, .ref yt, .ref yl, .int (nI tz)])), (yz, .inl (cI, 3, .inl (upd (zf ko kn kr) 1 (nI x.toNatClampNeg))))]) X 1 rfl (vp_in_nI (n := 1) (by omega) (by omega)) (by rw [show ((1 : Int32).toNatClampNeg) = 1 from rfl]) rfl dX5_cut_29 ?_
        refine k_iconst (v := 1) X dX5_cut_30 (by decide) ?_
        exact k_zret (u := [(m0, .inr (5, [.ref yb, .ref yz, .ref ye, .int (nI dz), .int (nI sz), .int (nI wz), .int (nI bz), .int (nI uS), .int (nI uW), .ref ys, .ref yg, .int (nI mr), .int (nI ml), .int (nI mw), .int (nI ma), .ref yf, .ref yh, .ref yw, .ref yn, .ref yt, .ref yl, .int (nI tz)])), (yz, .inl (cI, 3, .inl (upd (zf ko kn kr) 1 (nI x.toNatClampNeg))))]) X (by first | rfl | exact b2i_nar _ | decide) hr [0, 1] (by decide) rfl rfl (⟨by rw [b2i_t (by omega)], by rw [if_pos (by omega), zf_1]⟩) (by (try dsimp only); omega) (by (try dsimp only); omega) dX5_cut_31
      · refine k_iconst (v := 0) X dX5_cut_21 (by decide) ?_
        exact k_zret (u := [(m0, .inr (5, [.ref yb, .ref yz, .ref ye, .int (nI dz), .int (nI sz), .int (nI wz), .int (nI bz), .int (nI uS), .int (nI uW), .ref ys, .ref yg, .int (nI mr), .int (nI ml), .int (nI mw), .int (nI ma), .ref yf, .ref yh, .ref yw, .ref yn, .ref yt, .ref yl, .int (nI tz)])), (yz, .inl (cI, 3, .inl (zf ko kn kr)))]) X (by first | rfl | exact b2i_nar _ | decide) hr [0, 1] (by decide) rfl rfl (⟨by rw [b2i_f (by omega)], by rw [if_neg (by omega)]⟩) (by (try dsimp only); omega) (by (try dsimp only); omega) dX5_cut_22
set_option maxHeartbeats 4000000 in
set_option maxRecDepth 100000 in
theorem m_put_1 (l : Launch) (D : va_G) (cI cB : ClassId) (m0 : Nat) (yb : Nat) (yz : Nat) (ye : Nat) (ys : Nat) (yg : Nat) (yf : Nat) (yh : Nat) (yw : Nat) (yn : Nat) (yt : Nat) (yl : Nat) (dz : Nat) (sz : Nat) (wz : Nat) (bz : Nat) (uS : Nat) (uW : Nat) (mr : Nat) (ml : Nat) (mw : Nat) (ma : Nat) (tz : Nat) (B : Nat → Int32) (ko : Nat) (kn : Nat) (kr : Nat) (x : Int32) (b : Int32) (hk : kn ≤ 2000) : kC l yX5_put cX5_put 4 (some .boolean) 1 20 (0) (0) D cI cB [.ref m0, .int 1, .int x, .int b] [(m0, .inr (5, [.ref yb, .ref yz, .ref ye, .int (nI dz), .int (nI sz), .int (nI wz), .int (nI bz), .int (nI uS), .int (nI uW), .ref ys, .ref yg, .int (nI mr), .int (nI ml), .int (nI mw), .int (nI ma), .ref yf, .ref yh, .ref yw, .ref yn, .ref yt, .ref yl, .int (nI tz)])), (yb, .inl (cB, 6000, .inl B)), (yz, .inl (cI, 3, .inl (zf ko kn kr)))] (fun (vV : Option Value) (uU : va_W) => vV = some (.int (b2i (decide (rIn x kn ∧ rByte b)))) ∧ uU = [(m0, .inr (5, [.ref yb, .ref yz, .ref ye, .int (nI dz), .int (nI sz), .int (nI wz), .int (nI bz), .int (nI uS), .int (nI uW), .ref ys, .ref yg, .int (nI mr), .int (nI ml), .int (nI mw), .int (nI ma), .ref yf, .ref yh, .ref yw, .ref yn, .ref yt, .ref yl, .int (nI tz)])), (yb, .inl (cB, 6000, .inl (if rIn x kn ∧ rByte b then upd B (2000 + x.toNatClampNeg) b.toInt8.toInt32 else B))), (yz, .inl (cI, 3, .inl (zf ko kn kr)))]) := by
  refine k_entry (lv0 := [(0, .ref m0), (1, .int 1), (2, .int x), (3, .int b)]) (by decide) (Nat.le_of_ble_eq_true rfl) rfl ?_
  intro zp ze zs zm zb zt zc zA X hr hin
  refine k_iload_n X dX5_put_0 rfl 1 rfl ?_
  refine k_callS (wc := []) (wr := [(m0, .inr (5, [.ref yb, .ref yz, .ref ye, .int (nI dz), .int (nI sz), .int (nI wz), .int (nI bz), .int (nI uS), .int (nI uW), .ref ys, .ref yg, .int (nI mr), .int (nI ml), .int (nI mw), .int (nI ma), .ref yf, .ref yh, .ref yw, .ref yn, .ref yt, .ref yl, .int (nI tz)])), (yb, .inl (cB, 6000, .inl B)), (yz, .inl (cI, 3, .inl (zf ko kn kr)))]) (As := [.int 1]) (n := 1) (st := []) X (m_isFile_1 l D cI cB  ) ml_X5_121 sm_X5_isFile ini_X5 co_X5_isFile (by decide +kernel) rfl ⟨Nat.le_of_ble_eq_true rfl, Nat.le_of_ble_eq_true rfl⟩ (⟨by (try dsimp only); omega, by (try dsimp only); omega⟩) (Nat.le_of_ble_eq_true rfl) [] [0, 1, 2] rfl rfl rfl (by decide) (by decide) (by decide) rfl dX5_put_1 (fun v_1 u_1 hu_1 => ?_)
  obtain ⟨rfl, rfl⟩ := hu_1
  refine k_to (ws' := [(m0, .inr (5, [.ref yb, .ref yz, .ref ye, .int (nI dz), .int (nI sz), .int (nI wz), .int (nI bz), .int (nI uS), .int (nI uW), .ref ys, .ref yg, .int (nI mr), .int (nI ml), .int (nI mw), .int (nI ma), .ref yf, .ref yh, .ref yw, .ref yn, .ref yt, .ref yl, .int (nI tz)])), (yb, .inl (cB, 6000, .inl B)), (yz, .inl (cI, 3, .inl (zf ko kn kr)))]) (st' := [.int 1]) rfl rfl ?_
  refine k_if_eq (tgt := 32) (xi := (1 : Int)) X (by decide) dX5_put_4 (by decide) (fun c_4 => ?_) (fun c_4 => ?_)
  · exact absurd c_4 (by decide)
  · refine k_iload_n X dX5_put_7 rfl 2 rfl ?_
    refine k_if_lt (tgt := 32) (xi := x.toInt) X (rfl) dX5_put_8 (by decide) (fun c_8 => ?_) (fun c_8 => ?_)
    · refine k_iconst (v := 0) X dX5_put_32 (by decide) ?_
      exact k_zret (u := [(m0, .inr (5, [.ref yb, .ref yz, .ref ye, .int (nI dz), .int (nI sz), .int (nI wz), .int (nI bz), .int (nI uS), .int (nI uW), .ref ys, .ref yg, .int (nI mr), .int (nI ml), .int (nI mw), .int (nI ma), .ref yf, .ref yh, .ref yw, .ref yn, .ref yt, .ref yl, .int (nI tz)])), (yb, .inl (cB, 6000, .inl B)), (yz, .inl (cI, 3, .inl (zf ko kn kr)))]) X (by first | rfl | exact b2i_nar _ | decide) hr [0, 1, 2] (by decide) rfl rfl (⟨by rw [b2i_f (by omega)], by rw [if_neg (by omega)]⟩) (by (try dsimp only); omega) (by (try dsimp only); omega) dX5_put_33
    · refine k_iload_n X dX5_put_11 rfl 2 rfl ?_
      refine k_aload_n X dX5_put_12 rfl 0 rfl ?_
      refine k_get (v := .ref yz) X 0 5 1 rfl rfl (by decide) fl_X5_13 in_X5 rfl rfl dX5_put_13 ?_
      refine k_iload_n X dX5_put_16 rfl 1 rfl ?_
      refine k_iald (v := (zf ko kn kr) 1) X 2 rfl (vp_in_nI (n := 1) (by omega) (by omega)) (by rw [show ((1 : Int32).toNatClampNeg) = 1 from rfl]) dX5_put_17 ?_
      refine k_as (y := nI kn) (rfl) ?_
      refine k_icmp_ge (tgt := 32) (xi := x.toInt) (yi := ((kn : Nat) : Int)) X (rfl) (nI_toInt (by omega)) dX5_put_18 (by decide) (fun c_18 => ?_) (fun c_18 => ?_)
      · refine k_iconst (v := 0) X dX5_put_32 (by decide) ?_
        exact k_zret (u := [(m0, .inr (5, [.ref yb, .ref yz, .ref ye, .int (nI dz), .int (nI sz), .int (nI wz), .int (nI bz), .int (nI uS), .int (nI uW), .ref ys, .ref yg, .int (nI mr), .int (nI ml), .int (nI mw), .int (nI ma), .ref yf, .ref yh, .ref yw, .ref yn, .ref yt, .ref yl, .int (nI tz)])), (yb, .inl (cB, 6000, .inl B)), (yz, .inl (cI, 3, .inl (zf ko kn kr)))]) X (by first | rfl | exact b2i_nar _ | decide) hr [0, 1, 2] (by decide) rfl rfl (⟨by rw [b2i_f (by omega)], by rw [if_neg (by omega)]⟩) (by (try dsimp only); omega) (by (try dsimp only); omega) dX5_put_33
      · refine k_iload_n X dX5_put_21 rfl 3 rfl ?_
        refine k_if_lt (tgt := 32) (xi := b.toInt) X (rfl) dX5_put_22 (by decide) (fun c_22 => ?_) (fun c_22 => ?_)
        · refine k_iconst (v := 0) X dX5_put_32 (by decide) ?_
          exact k_zret (u := [(m0, .inr (5, [.ref yb, .ref yz, .ref ye, .int (nI dz), .int (nI sz), .int (nI wz), .int (nI bz), .int (nI uS), .int (nI uW), .ref ys, .ref yg, .int (nI mr), .int (nI ml), .int (nI mw), .int (nI ma), .ref yf, .ref yh, .ref yw, .ref yn, .ref yt, .ref yl, .int (nI tz)])), (yb, .inl (cB, 6000, .inl B)), (yz, .inl (cI, 3, .inl (zf ko kn kr)))]) X (by first | rfl | exact b2i_nar _ | decide) hr [0, 1, 2] (by decide) rfl rfl (⟨by rw [b2i_f (by omega)], by rw [if_neg (by omega)]⟩) (by (try dsimp only); omega) (by (try dsimp only); omega) dX5_put_33
        · refine k_iload_n X dX5_put_25 rfl 3 rfl ?_
          refine k_sipush (v := 255) X dX5_put_26 (by decide) ?_
          refine k_icmp_le (tgt := 34) (xi := b.toInt) (yi := (255 : Int)) X (rfl) (by decide) dX5_put_29 (by decide) (fun c_29 => ?_) (fun c_29 => ?_)
          · refine k_aload_n X dX5_put_34 rfl 0 rfl ?_
            refine k_get (v := .ref yb) X 0 5 0 rfl rfl (by decide) fl_X5_7 in_X5 rfl rfl dX5_put_35 ?_
            refine k_sipush (v := 2000) X dX5_put_38 (by decide) ?_
            refine k_iload_n X dX5_put_41 rfl 1 rfl ?_
            refine k_imul X dX5_put_42 ?_
            refine k_as (y := 2000) (by decide) ?_
            refine k_iload_n X dX5_put_43 rfl 2 rfl ?_
            refine k_iadd X dX5_put_44 ?_
            have hxN := i_of (x := x) (n := kn) (by omega) (by omega)
            refine k_as (y := nI (2000 + x.toNatClampNeg)) ((congrArg (fun y : Int32 => ((2000 : Int32)) + y) hxN.2.1).trans (nI_add 2000 _)) ?_
            refine k_iload_n X dX5_put_45 rfl 3 rfl ?_
            refine k_i2b (v := b.toInt8.toInt32) X dX5_put_46 rfl ?_
            refine k_bast (f' := upd B (2000 + x.toNatClampNeg) (vp_nar .byte b.toInt8.toInt32)) (ws' := [(m0, .inr (5, [.ref yb, .ref yz, .ref ye, .int (nI dz), .int (nI sz), .int (nI wz), .int (nI bz), .int (nI uS), .int (nI uW), .ref ys, .ref yg, .int (nI mr), .int (nI ml), .int (nI mw), .int (nI ma), .ref yf, .ref yh, .ref yw, .ref yn, .ref yt, .ref yl, .int (nI tz)])), (yb, .inl (cB, 6000, .inl (upd B (2000 + x.toNatClampNeg) (vp_nar .byte b.toInt8.toInt32)))), (yz, .inl (cI, 3, .inl (zf ko kn kr)))]) X 1 rfl (vp_in_nI (n := 2000 + x.toNatClampNeg) (by omega) (by omega)) (by rw [nI_clamp (n := 2000 + x.toNatClampNeg) (by omega)]) rfl dX5_put_47 ?_
            refine k_iconst (v := 1) X dX5_put_48 (by decide) ?_
            exact k_zret (u := [(m0, .inr (5, [.ref yb, .ref yz, .ref ye, .int (nI dz), .int (nI sz), .int (nI wz), .int (nI bz), .int (nI uS), .int (nI uW), .ref ys, .ref yg, .int (nI mr), .int (nI ml), .int (nI mw), .int (nI ma), .ref yf, .ref yh, .ref yw, .ref yn, .ref yt, .ref yl, .int (nI tz)])), (yb, .inl (cB, 6000, .inl (upd B (2000 + x.toNatClampNeg) (vp_nar .byte b.toInt8.toInt32)))), (yz, .inl (cI, 3, .inl (zf ko kn kr)))]) X (by first | rfl | exact b2i_nar _ | decide) hr [0, 1, 2] (by decide) rfl rfl (⟨by rw [b2i_t (by omega)], by rw [if_pos (by omega), pk_vb]⟩) (by (try dsimp only); omega) (by (try dsimp only); omega) dX5_put_49
          · refine k_iconst (v := 0) X dX5_put_32 (by decide) ?_
            exact k_zret (u := [(m0, .inr (5, [.ref yb, .ref yz, .ref ye, .int (nI dz), .int (nI sz), .int (nI wz), .int (nI bz), .int (nI uS), .int (nI uW), .ref ys, .ref yg, .int (nI mr), .int (nI ml), .int (nI mw), .int (nI ma), .ref yf, .ref yh, .ref yw, .ref yn, .ref yt, .ref yl, .int (nI tz)])), (yb, .inl (cB, 6000, .inl B)), (yz, .inl (cI, 3, .inl (zf ko kn kr)))]) X (by first | rfl | exact b2i_nar _ | decide) hr [0, 1, 2] (by decide) rfl rfl (⟨by rw [b2i_f (by omega)], by rw [if_neg (by omega)]⟩) (by (try dsimp only); omega) (by (try dsimp only); omega) dX5_put_33
set_option maxHeartbeats 4000000 in
set_option maxRecDepth 100000 in
theorem m_cut_f (l : Launch) (D : va_G) (cI cB : ClassId) (m0 : Nat) (yb : Nat) (yz : Nat) (ye : Nat) (ys : Nat) (yg : Nat) (yf : Nat) (yh : Nat) (yw : Nat) (yn : Nat) (yt : Nat) (yl : Nat) (dz : Nat) (sz : Nat) (wz : Nat) (bz : Nat) (uS : Nat) (uW : Nat) (mr : Nat) (ml : Nat) (mw : Nat) (ma : Nat) (tz : Nat) (wh : Int32) (x : Int32) (hwh : ¬ wh.toInt = 0 ∧ ¬ wh.toInt = 1) : kC l yX5_cut cX5_cut 3 (some .boolean) 1 20 (0) (0) D cI cB [.ref m0, .int wh, .int x] [(m0, .inr (5, [.ref yb, .ref yz, .ref ye, .int (nI dz), .int (nI sz), .int (nI wz), .int (nI bz), .int (nI uS), .int (nI uW), .ref ys, .ref yg, .int (nI mr), .int (nI ml), .int (nI mw), .int (nI ma), .ref yf, .ref yh, .ref yw, .ref yn, .ref yt, .ref yl, .int (nI tz)]))] (fun (vV : Option Value) (uU : va_W) => vV = some (.int 0) ∧ uU = [(m0, .inr (5, [.ref yb, .ref yz, .ref ye, .int (nI dz), .int (nI sz), .int (nI wz), .int (nI bz), .int (nI uS), .int (nI uW), .ref ys, .ref yg, .int (nI mr), .int (nI ml), .int (nI mw), .int (nI ma), .ref yf, .ref yh, .ref yw, .ref yn, .ref yt, .ref yl, .int (nI tz)]))]) := by
  refine k_entry (lv0 := [(0, .ref m0), (1, .int wh), (2, .int x)]) (by decide) (Nat.le_of_ble_eq_true rfl) rfl ?_
  intro zp ze zs zm zb zt zc zA X hr hin
  refine k_iload_n X dX5_cut_0 rfl 1 rfl ?_
  refine k_callS (wc := []) (wr := [(m0, .inr (5, [.ref yb, .ref yz, .ref ye, .int (nI dz), .int (nI sz), .int (nI wz), .int (nI bz), .int (nI uS), .int (nI uW), .ref ys, .ref yg, .int (nI mr), .int (nI ml), .int (nI mw), .int (nI ma), .ref yf, .ref yh, .ref yw, .ref yn, .ref yt, .ref yl, .int (nI tz)]))]) (As := [.int wh]) (n := 1) (st := []) X (m_isFile_f l D cI cB wh (hwh)) ml_X5_121 sm_X5_isFile ini_X5 co_X5_isFile (by decide +kernel) rfl ⟨Nat.le_of_ble_eq_true rfl, Nat.le_of_ble_eq_true rfl⟩ (⟨by (try dsimp only); omega, by (try dsimp only); omega⟩) (Nat.le_of_ble_eq_true rfl) [] [0] rfl rfl rfl (by decide) (by decide) (by decide) rfl dX5_cut_1 (fun v_1 u_1 hu_1 => ?_)
  obtain ⟨rfl, rfl⟩ := hu_1
  refine k_to (ws' := [(m0, .inr (5, [.ref yb, .ref yz, .ref ye, .int (nI dz), .int (nI sz), .int (nI wz), .int (nI bz), .int (nI uS), .int (nI uW), .ref ys, .ref yg, .int (nI mr), .int (nI ml), .int (nI mw), .int (nI ma), .ref yf, .ref yh, .ref yw, .ref yn, .ref yt, .ref yl, .int (nI tz)]))]) (st' := [.int 0]) rfl rfl ?_
  refine k_if_eq (tgt := 21) (xi := (0 : Int)) X (by decide) dX5_cut_4 (by decide) (fun c_4 => ?_) (fun c_4 => ?_)
  · refine k_iconst (v := 0) X dX5_cut_21 (by decide) ?_
    exact k_zret (u := [(m0, .inr (5, [.ref yb, .ref yz, .ref ye, .int (nI dz), .int (nI sz), .int (nI wz), .int (nI bz), .int (nI uS), .int (nI uW), .ref ys, .ref yg, .int (nI mr), .int (nI ml), .int (nI mw), .int (nI ma), .ref yf, .ref yh, .ref yw, .ref yn, .ref yt, .ref yl, .int (nI tz)]))]) X (by first | rfl | exact b2i_nar _ | decide) hr [0] (by decide) rfl rfl (⟨rfl, rfl⟩) (by (try dsimp only); omega) (by (try dsimp only); omega) dX5_cut_22
  · exact absurd c_4 (by decide)
set_option maxHeartbeats 4000000 in
set_option maxRecDepth 100000 in
theorem m_put_f (l : Launch) (D : va_G) (cI cB : ClassId) (m0 : Nat) (yb : Nat) (yz : Nat) (ye : Nat) (ys : Nat) (yg : Nat) (yf : Nat) (yh : Nat) (yw : Nat) (yn : Nat) (yt : Nat) (yl : Nat) (dz : Nat) (sz : Nat) (wz : Nat) (bz : Nat) (uS : Nat) (uW : Nat) (mr : Nat) (ml : Nat) (mw : Nat) (ma : Nat) (tz : Nat) (wh : Int32) (x : Int32) (b : Int32) (hwh : ¬ wh.toInt = 0 ∧ ¬ wh.toInt = 1) : kC l yX5_put cX5_put 4 (some .boolean) 1 20 (0) (0) D cI cB [.ref m0, .int wh, .int x, .int b] [(m0, .inr (5, [.ref yb, .ref yz, .ref ye, .int (nI dz), .int (nI sz), .int (nI wz), .int (nI bz), .int (nI uS), .int (nI uW), .ref ys, .ref yg, .int (nI mr), .int (nI ml), .int (nI mw), .int (nI ma), .ref yf, .ref yh, .ref yw, .ref yn, .ref yt, .ref yl, .int (nI tz)]))] (fun (vV : Option Value) (uU : va_W) => vV = some (.int 0) ∧ uU = [(m0, .inr (5, [.ref yb, .ref yz, .ref ye, .int (nI dz), .int (nI sz), .int (nI wz), .int (nI bz), .int (nI uS), .int (nI uW), .ref ys, .ref yg, .int (nI mr), .int (nI ml), .int (nI mw), .int (nI ma), .ref yf, .ref yh, .ref yw, .ref yn, .ref yt, .ref yl, .int (nI tz)]))]) := by
  refine k_entry (lv0 := [(0, .ref m0), (1, .int wh), (2, .int x), (3, .int b)]) (by decide) (Nat.le_of_ble_eq_true rfl) rfl ?_
  intro zp ze zs zm zb zt zc zA X hr hin
  refine k_iload_n X dX5_put_0 rfl 1 rfl ?_
  refine k_callS (wc := []) (wr := [(m0, .inr (5, [.ref yb, .ref yz, .ref ye, .int (nI dz), .int (nI sz), .int (nI wz), .int (nI bz), .int (nI uS), .int (nI uW), .ref ys, .ref yg, .int (nI mr), .int (nI ml), .int (nI mw), .int (nI ma), .ref yf, .ref yh, .ref yw, .ref yn, .ref yt, .ref yl, .int (nI tz)]))]) (As := [.int wh]) (n := 1) (st := []) X (m_isFile_f l D cI cB wh (hwh)) ml_X5_121 sm_X5_isFile ini_X5 co_X5_isFile (by decide +kernel) rfl ⟨Nat.le_of_ble_eq_true rfl, Nat.le_of_ble_eq_true rfl⟩ (⟨by (try dsimp only); omega, by (try dsimp only); omega⟩) (Nat.le_of_ble_eq_true rfl) [] [0] rfl rfl rfl (by decide) (by decide) (by decide) rfl dX5_put_1 (fun v_1 u_1 hu_1 => ?_)
  obtain ⟨rfl, rfl⟩ := hu_1
  refine k_to (ws' := [(m0, .inr (5, [.ref yb, .ref yz, .ref ye, .int (nI dz), .int (nI sz), .int (nI wz), .int (nI bz), .int (nI uS), .int (nI uW), .ref ys, .ref yg, .int (nI mr), .int (nI ml), .int (nI mw), .int (nI ma), .ref yf, .ref yh, .ref yw, .ref yn, .ref yt, .ref yl, .int (nI tz)]))]) (st' := [.int 0]) rfl rfl ?_
  refine k_if_eq (tgt := 32) (xi := (0 : Int)) X (by decide) dX5_put_4 (by decide) (fun c_4 => ?_) (fun c_4 => ?_)
  · refine k_iconst (v := 0) X dX5_put_32 (by decide) ?_
    exact k_zret (u := [(m0, .inr (5, [.ref yb, .ref yz, .ref ye, .int (nI dz), .int (nI sz), .int (nI wz), .int (nI bz), .int (nI uS), .int (nI uW), .ref ys, .ref yg, .int (nI mr), .int (nI ml), .int (nI mw), .int (nI ma), .ref yf, .ref yh, .ref yw, .ref yn, .ref yt, .ref yl, .int (nI tz)]))]) X (by first | rfl | exact b2i_nar _ | decide) hr [0] (by decide) rfl rfl (⟨rfl, rfl⟩) (by (try dsimp only); omega) (by (try dsimp only); omega) dX5_put_33
  · exact absurd c_4 (by decide)
set_option maxHeartbeats 4000000 in
set_option maxRecDepth 100000 in
theorem m_shape (l : Launch) (D : va_G) (cI cB : ClassId) (m0 : Nat) (yb : Nat) (yz : Nat) (ye : Nat) (ys : Nat) (yg : Nat) (yf : Nat) (yh : Nat) (yw : Nat) (yn : Nat) (yt : Nat) (yl : Nat) (dz : Nat) (sz : Nat) (wz : Nat) (bz : Nat) (uS : Nat) (uW : Nat) (mr : Nat) (ml : Nat) (mw : Nat) (ma : Nat) (tz : Nat) (s1 : Nat) (w1 : Nat) (hs : 1 ≤ s1 ∧ s1 ≤ 256) (hw : 1 ≤ w1 ∧ w1 ≤ 16) : kC l yX5_shape cX5_shape 3 (some .boolean) 0 0 (0) (0) D cI cB [.ref m0, .int (nI s1), .int (nI w1)] [(m0, .inr (5, [.ref yb, .ref yz, .ref ye, .int (nI dz), .int (nI sz), .int (nI wz), .int (nI bz), .int (nI uS), .int (nI uW), .ref ys, .ref yg, .int (nI mr), .int (nI ml), .int (nI mw), .int (nI ma), .ref yf, .ref yh, .ref yw, .ref yn, .ref yt, .ref yl, .int (nI tz)]))] (fun (vV : Option Value) (uU : va_W) => vV = some (.int 1) ∧ uU = [(m0, .inr (5, [.ref yb, .ref yz, .ref ye, .int (nI dz), .int (nI s1), .int (nI w1), .int (nI bz), .int (nI uS), .int (nI uW), .ref ys, .ref yg, .int (nI mr), .int (nI ml), .int (nI mw), .int (nI ma), .ref yf, .ref yh, .ref yw, .ref yn, .ref yt, .ref yl, .int (nI tz)]))]) := by
  refine k_entry (lv0 := [(0, .ref m0), (1, .int (nI s1)), (2, .int (nI w1))]) (by decide) (Nat.le_of_ble_eq_true rfl) rfl ?_
  intro zp ze zs zm zb zt zc zA X hr hin
  refine k_iload_n X dX5_shape_0 rfl 1 rfl ?_
  refine k_iconst (v := 1) X dX5_shape_1 (by decide) ?_
  refine k_icmp_lt (tgt := 23) (xi := ((s1 : Nat) : Int)) (yi := (1 : Int)) X (nI_toInt (by omega)) (by decide) dX5_shape_2 (by decide) (fun c_2 => ?_) (fun c_2 => ?_)
  · exact absurd c_2 (by omega)
  · refine k_iload_n X dX5_shape_5 rfl 1 rfl ?_
    refine k_sipush (v := 256) X dX5_shape_6 (by decide) ?_
    refine k_icmp_gt (tgt := 23) (xi := ((s1 : Nat) : Int)) (yi := (256 : Int)) X (nI_toInt (by omega)) (by decide) dX5_shape_9 (by decide) (fun c_9 => ?_) (fun c_9 => ?_)
    · exact absurd c_9 (by omega)
    · refine k_iload_n X dX5_shape_12 rfl 2 rfl ?_
      refine k_iconst (v := 1) X dX5_shape_13 (by decide) ?_
      refine k_icmp_lt (tgt := 23) (xi := ((w1 : Nat) : Int)) (yi := (1 : Int)) X (nI_toInt (by omega)) (by decide) dX5_shape_14 (by decide) (fun c_14 => ?_) (fun c_14 => ?_)
      · exact absurd c_14 (by omega)
      · refine k_iload_n X dX5_shape_17 rfl 2 rfl ?_
        refine k_bipush (v := 16) X dX5_shape_18 (by decide) ?_
        refine k_icmp_le (tgt := 25) (xi := ((w1 : Nat) : Int)) (yi := (16 : Int)) X (nI_toInt (by omega)) (by decide) dX5_shape_20 (by decide) (fun c_20 => ?_) (fun c_20 => ?_)
        · refine k_aload_n X dX5_shape_25 rfl 0 rfl ?_
          refine k_iload_n X dX5_shape_26 rfl 1 rfl ?_
          refine k_put (v := .int (nI s1)) (ty := .int) (ws' := [(m0, .inr (5, [.ref yb, .ref yz, .ref ye, .int (nI dz), .int (nI s1), .int (nI wz), .int (nI bz), .int (nI uS), .int (nI uW), .ref ys, .ref yg, .int (nI mr), .int (nI ml), .int (nI mw), .int (nI ma), .ref yf, .ref yh, .ref yw, .ref yn, .ref yt, .ref yl, .int (nI tz)]))]) X 0 5 4 tyX5 tyX5_ok nmX5 rfl rfl (by decide) fl_X5_20 in_X5 rfl rfl (by decide +kernel) rfl rfl (Nat.le_of_ble_eq_true rfl) rfl dX5_shape_27 ?_
          refine k_aload_n X dX5_shape_30 rfl 0 rfl ?_
          refine k_iload_n X dX5_shape_31 rfl 2 rfl ?_
          refine k_put (v := .int (nI w1)) (ty := .int) (ws' := [(m0, .inr (5, [.ref yb, .ref yz, .ref ye, .int (nI dz), .int (nI s1), .int (nI w1), .int (nI bz), .int (nI uS), .int (nI uW), .ref ys, .ref yg, .int (nI mr), .int (nI ml), .int (nI mw), .int (nI ma), .ref yf, .ref yh, .ref yw, .ref yn, .ref yt, .ref yl, .int (nI tz)]))]) X 0 5 5 tyX5 tyX5_ok nmX5 rfl rfl (by decide) fl_X5_24 in_X5 rfl rfl (by decide +kernel) rfl rfl (Nat.le_of_ble_eq_true rfl) rfl dX5_shape_32 ?_
          refine k_iconst (v := 1) X dX5_shape_35 (by decide) ?_
          exact k_zret (u := [(m0, .inr (5, [.ref yb, .ref yz, .ref ye, .int (nI dz), .int (nI s1), .int (nI w1), .int (nI bz), .int (nI uS), .int (nI uW), .ref ys, .ref yg, .int (nI mr), .int (nI ml), .int (nI mw), .int (nI ma), .ref yf, .ref yh, .ref yw, .ref yn, .ref yt, .ref yl, .int (nI tz)]))]) X (by first | rfl | exact b2i_nar _ | decide) hr [0] (by decide) rfl rfl (⟨rfl, rfl⟩) (by (try dsimp only); omega) (by (try dsimp only); omega) dX5_shape_36
        · exact absurd c_20 (by omega)
set_option maxHeartbeats 4000000 in
set_option maxRecDepth 100000 in
theorem m_shape_f (l : Launch) (D : va_G) (cI cB : ClassId) (m0 : Nat) (yb : Nat) (yz : Nat) (ye : Nat) (ys : Nat) (yg : Nat) (yf : Nat) (yh : Nat) (yw : Nat) (yn : Nat) (yt : Nat) (yl : Nat) (dz : Nat) (sz : Nat) (wz : Nat) (bz : Nat) (uS : Nat) (uW : Nat) (mr : Nat) (ml : Nat) (mw : Nat) (ma : Nat) (tz : Nat) (s1 : Int32) (w1 : Int32) (hf : ¬ (1 ≤ s1.toInt ∧ s1.toInt ≤ 256 ∧ 1 ≤ w1.toInt ∧ w1.toInt ≤ 16)) : kC l yX5_shape cX5_shape 3 (some .boolean) 0 0 (0) (0) D cI cB [.ref m0, .int s1, .int w1] [(m0, .inr (5, [.ref yb, .ref yz, .ref ye, .int (nI dz), .int (nI sz), .int (nI wz), .int (nI bz), .int (nI uS), .int (nI uW), .ref ys, .ref yg, .int (nI mr), .int (nI ml), .int (nI mw), .int (nI ma), .ref yf, .ref yh, .ref yw, .ref yn, .ref yt, .ref yl, .int (nI tz)]))] (fun (vV : Option Value) (uU : va_W) => vV = some (.int 0) ∧ uU = [(m0, .inr (5, [.ref yb, .ref yz, .ref ye, .int (nI dz), .int (nI sz), .int (nI wz), .int (nI bz), .int (nI uS), .int (nI uW), .ref ys, .ref yg, .int (nI mr), .int (nI ml), .int (nI mw), .int (nI ma), .ref yf, .ref yh, .ref yw, .ref yn, .ref yt, .ref yl, .int (nI tz)]))]) := by
  refine k_entry (lv0 := [(0, .ref m0), (1, .int s1), (2, .int w1)]) (by decide) (Nat.le_of_ble_eq_true rfl) rfl ?_
  intro zp ze zs zm zb zt zc zA X hr hin
  refine k_iload_n X dX5_shape_0 rfl 1 rfl ?_
  refine k_iconst (v := 1) X dX5_shape_1 (by decide) ?_
  refine k_icmp_lt (tgt := 23) (xi := s1.toInt) (yi := (1 : Int)) X (rfl) (by decide) dX5_shape_2 (by decide) (fun c_2 => ?_) (fun c_2 => ?_)
  · refine k_iconst (v := 0) X dX5_shape_23 (by decide) ?_
    exact k_zret (u := [(m0, .inr (5, [.ref yb, .ref yz, .ref ye, .int (nI dz), .int (nI sz), .int (nI wz), .int (nI bz), .int (nI uS), .int (nI uW), .ref ys, .ref yg, .int (nI mr), .int (nI ml), .int (nI mw), .int (nI ma), .ref yf, .ref yh, .ref yw, .ref yn, .ref yt, .ref yl, .int (nI tz)]))]) X (by first | rfl | exact b2i_nar _ | decide) hr [0] (by decide) rfl rfl (⟨rfl, rfl⟩) (by (try dsimp only); omega) (by (try dsimp only); omega) dX5_shape_24
  · refine k_iload_n X dX5_shape_5 rfl 1 rfl ?_
    refine k_sipush (v := 256) X dX5_shape_6 (by decide) ?_
    refine k_icmp_gt (tgt := 23) (xi := s1.toInt) (yi := (256 : Int)) X (rfl) (by decide) dX5_shape_9 (by decide) (fun c_9 => ?_) (fun c_9 => ?_)
    · refine k_iconst (v := 0) X dX5_shape_23 (by decide) ?_
      exact k_zret (u := [(m0, .inr (5, [.ref yb, .ref yz, .ref ye, .int (nI dz), .int (nI sz), .int (nI wz), .int (nI bz), .int (nI uS), .int (nI uW), .ref ys, .ref yg, .int (nI mr), .int (nI ml), .int (nI mw), .int (nI ma), .ref yf, .ref yh, .ref yw, .ref yn, .ref yt, .ref yl, .int (nI tz)]))]) X (by first | rfl | exact b2i_nar _ | decide) hr [0] (by decide) rfl rfl (⟨rfl, rfl⟩) (by (try dsimp only); omega) (by (try dsimp only); omega) dX5_shape_24
    · refine k_iload_n X dX5_shape_12 rfl 2 rfl ?_
      refine k_iconst (v := 1) X dX5_shape_13 (by decide) ?_
      refine k_icmp_lt (tgt := 23) (xi := w1.toInt) (yi := (1 : Int)) X (rfl) (by decide) dX5_shape_14 (by decide) (fun c_14 => ?_) (fun c_14 => ?_)
      · refine k_iconst (v := 0) X dX5_shape_23 (by decide) ?_
        exact k_zret (u := [(m0, .inr (5, [.ref yb, .ref yz, .ref ye, .int (nI dz), .int (nI sz), .int (nI wz), .int (nI bz), .int (nI uS), .int (nI uW), .ref ys, .ref yg, .int (nI mr), .int (nI ml), .int (nI mw), .int (nI ma), .ref yf, .ref yh, .ref yw, .ref yn, .ref yt, .ref yl, .int (nI tz)]))]) X (by first | rfl | exact b2i_nar _ | decide) hr [0] (by decide) rfl rfl (⟨rfl, rfl⟩) (by (try dsimp only); omega) (by (try dsimp only); omega) dX5_shape_24
      · refine k_iload_n X dX5_shape_17 rfl 2 rfl ?_
        refine k_bipush (v := 16) X dX5_shape_18 (by decide) ?_
        refine k_icmp_le (tgt := 25) (xi := w1.toInt) (yi := (16 : Int)) X (rfl) (by decide) dX5_shape_20 (by decide) (fun c_20 => ?_) (fun c_20 => ?_)
        · exact absurd c_20 (by omega)
        · refine k_iconst (v := 0) X dX5_shape_23 (by decide) ?_
          exact k_zret (u := [(m0, .inr (5, [.ref yb, .ref yz, .ref ye, .int (nI dz), .int (nI sz), .int (nI wz), .int (nI bz), .int (nI uS), .int (nI uW), .ref ys, .ref yg, .int (nI mr), .int (nI ml), .int (nI mw), .int (nI ma), .ref yf, .ref yh, .ref yw, .ref yn, .ref yt, .ref yl, .int (nI tz)]))]) X (by first | rfl | exact b2i_nar _ | decide) hr [0] (by decide) rfl rfl (⟨rfl, rfl⟩) (by (try dsimp only); omega) (by (try dsimp only); omega) dX5_shape_24
set_option maxHeartbeats 4000000 in
set_option maxRecDepth 100000 in
theorem m_sum (l : Launch) (D : va_G) (cI cB : ClassId) (m0 : Nat) (yb : Nat) (yz : Nat) (ye : Nat) (ys : Nat) (yg : Nat) (yf : Nat) (yh : Nat) (yw : Nat) (yn : Nat) (yt : Nat) (yl : Nat) (dz : Nat) (sz : Nat) (wz : Nat) (bz : Nat) (uS : Nat) (uW : Nat) (mr : Nat) (ml : Nat) (mw : Nat) (ma : Nat) (tz : Nat) (S : Nat → Int32) (b : Nat) (hb : b < bz) (hz : bz ≤ 2000) : kC l yX5_sum cX5_sum 2 (some .int) 0 0 (0) (0) D cI cB [.ref m0, .int (nI b)] [(m0, .inr (5, [.ref yb, .ref yz, .ref ye, .int (nI dz), .int (nI sz), .int (nI wz), .int (nI bz), .int (nI uS), .int (nI uW), .ref ys, .ref yg, .int (nI mr), .int (nI ml), .int (nI mw), .int (nI ma), .ref yf, .ref yh, .ref yw, .ref yn, .ref yt, .ref yl, .int (nI tz)])), (ys, .inl (cI, 2000, .inl S))] (fun (vV : Option Value) (uU : va_W) => vV = some (.int (S b)) ∧ uU = [(m0, .inr (5, [.ref yb, .ref yz, .ref ye, .int (nI dz), .int (nI sz), .int (nI wz), .int (nI bz), .int (nI uS), .int (nI uW), .ref ys, .ref yg, .int (nI mr), .int (nI ml), .int (nI mw), .int (nI ma), .ref yf, .ref yh, .ref yw, .ref yn, .ref yt, .ref yl, .int (nI tz)])), (ys, .inl (cI, 2000, .inl S))]) := by
  refine k_entry (lv0 := [(0, .ref m0), (1, .int (nI b))]) (by decide) (Nat.le_of_ble_eq_true rfl) rfl ?_
  intro zp ze zs zm zb zt zc zA X hr hin
  refine k_iload_n X dX5_sum_0 rfl 1 rfl ?_
  refine k_if_lt (tgt := 21) (xi := ((b : Nat) : Int)) X (nI_toInt (by omega)) dX5_sum_1 (by decide) (fun c_1 => ?_) (fun c_1 => ?_)
  · exact absurd c_1 (by omega)
  · refine k_iload_n X dX5_sum_4 rfl 1 rfl ?_
    refine k_aload_n X dX5_sum_5 rfl 0 rfl ?_
    refine k_get (v := .int (nI bz)) X 0 5 6 rfl rfl (by decide) fl_X5_136 in_X5 rfl rfl dX5_sum_6 ?_
    refine k_icmp_ge (tgt := 21) (xi := ((b : Nat) : Int)) (yi := ((bz : Nat) : Int)) X (nI_toInt (by omega)) (nI_toInt (by omega)) dX5_sum_9 (by decide) (fun c_9 => ?_) (fun c_9 => ?_)
    · exact absurd c_9 (by omega)
    · refine k_aload_n X dX5_sum_12 rfl 0 rfl ?_
      refine k_get (v := .ref ys) X 0 5 9 rfl rfl (by decide) fl_X5_33 in_X5 rfl rfl dX5_sum_13 ?_
      refine k_iload_n X dX5_sum_16 rfl 1 rfl ?_
      refine k_iald (v := S b) X 1 rfl (vp_in_nI (n := b) (by omega) (by omega)) (by rw [nI_clamp (n := b) (by omega)]) dX5_sum_17 ?_
      refine k_goto (tgt := 22) X dX5_sum_18 (by decide) ?_
      exact k_iret (u := [(m0, .inr (5, [.ref yb, .ref yz, .ref ye, .int (nI dz), .int (nI sz), .int (nI wz), .int (nI bz), .int (nI uS), .int (nI uW), .ref ys, .ref yg, .int (nI mr), .int (nI ml), .int (nI mw), .int (nI ma), .ref yf, .ref yh, .ref yw, .ref yn, .ref yt, .ref yl, .int (nI tz)])), (ys, .inl (cI, 2000, .inl S))]) X hr [0, 1] (by decide) rfl rfl (⟨rfl, rfl⟩) (by (try dsimp only); omega) (by (try dsimp only); omega) dX5_sum_22
set_option maxHeartbeats 4000000 in
set_option maxRecDepth 100000 in
theorem m_sum_f (l : Launch) (D : va_G) (cI cB : ClassId) (m0 : Nat) (yb : Nat) (yz : Nat) (ye : Nat) (ys : Nat) (yg : Nat) (yf : Nat) (yh : Nat) (yw : Nat) (yn : Nat) (yt : Nat) (yl : Nat) (dz : Nat) (sz : Nat) (wz : Nat) (bz : Nat) (uS : Nat) (uW : Nat) (mr : Nat) (ml : Nat) (mw : Nat) (ma : Nat) (tz : Nat) (i : Int32) (hz : bz ≤ 2000) (hf : ¬ rIn i bz) : kC l yX5_sum cX5_sum 2 (some .int) 0 0 (0) (0) D cI cB [.ref m0, .int i] [(m0, .inr (5, [.ref yb, .ref yz, .ref ye, .int (nI dz), .int (nI sz), .int (nI wz), .int (nI bz), .int (nI uS), .int (nI uW), .ref ys, .ref yg, .int (nI mr), .int (nI ml), .int (nI mw), .int (nI ma), .ref yf, .ref yh, .ref yw, .ref yn, .ref yt, .ref yl, .int (nI tz)]))] (fun (vV : Option Value) (uU : va_W) => vV = some (.int 0) ∧ uU = [(m0, .inr (5, [.ref yb, .ref yz, .ref ye, .int (nI dz), .int (nI sz), .int (nI wz), .int (nI bz), .int (nI uS), .int (nI uW), .ref ys, .ref yg, .int (nI mr), .int (nI ml), .int (nI mw), .int (nI ma), .ref yf, .ref yh, .ref yw, .ref yn, .ref yt, .ref yl, .int (nI tz)]))]) := by
  refine k_entry (lv0 := [(0, .ref m0), (1, .int i)]) (by decide) (Nat.le_of_ble_eq_true rfl) rfl ?_
  intro zp ze zs zm zb zt zc zA X hr hin
  refine k_iload_n X dX5_sum_0 rfl 1 rfl ?_
  refine k_if_lt (tgt := 21) (xi := i.toInt) X (rfl) dX5_sum_1 (by decide) (fun c_1 => ?_) (fun c_1 => ?_)
  · refine k_iconst (v := 0) X dX5_sum_21 (by decide) ?_
    exact k_iret (u := [(m0, .inr (5, [.ref yb, .ref yz, .ref ye, .int (nI dz), .int (nI sz), .int (nI wz), .int (nI bz), .int (nI uS), .int (nI uW), .ref ys, .ref yg, .int (nI mr), .int (nI ml), .int (nI mw), .int (nI ma), .ref yf, .ref yh, .ref yw, .ref yn, .ref yt, .ref yl, .int (nI tz)]))]) X hr [0] (by decide) rfl rfl (⟨rfl, rfl⟩) (by (try dsimp only); omega) (by (try dsimp only); omega) dX5_sum_22
  · refine k_iload_n X dX5_sum_4 rfl 1 rfl ?_
    refine k_aload_n X dX5_sum_5 rfl 0 rfl ?_
    refine k_get (v := .int (nI bz)) X 0 5 6 rfl rfl (by decide) fl_X5_136 in_X5 rfl rfl dX5_sum_6 ?_
    refine k_icmp_ge (tgt := 21) (xi := i.toInt) (yi := ((bz : Nat) : Int)) X (rfl) (nI_toInt (by omega)) dX5_sum_9 (by decide) (fun c_9 => ?_) (fun c_9 => ?_)
    · refine k_iconst (v := 0) X dX5_sum_21 (by decide) ?_
      exact k_iret (u := [(m0, .inr (5, [.ref yb, .ref yz, .ref ye, .int (nI dz), .int (nI sz), .int (nI wz), .int (nI bz), .int (nI uS), .int (nI uW), .ref ys, .ref yg, .int (nI mr), .int (nI ml), .int (nI mw), .int (nI ma), .ref yf, .ref yh, .ref yw, .ref yn, .ref yt, .ref yl, .int (nI tz)]))]) X hr [0] (by decide) rfl rfl (⟨rfl, rfl⟩) (by (try dsimp only); omega) (by (try dsimp only); omega) dX5_sum_22
    · exact absurd c_9 (by omega)
set_option maxHeartbeats 4000000 in
set_option maxRecDepth 100000 in
theorem m_digest (l : Launch) (D : va_G) (cI cB : ClassId) (m0 : Nat) (yb : Nat) (yz : Nat) (ye : Nat) (ys : Nat) (yg : Nat) (yf : Nat) (yh : Nat) (yw : Nat) (yn : Nat) (yt : Nat) (yl : Nat) (dz : Nat) (sz : Nat) (wz : Nat) (bz : Nat) (uS : Nat) (uW : Nat) (mr : Nat) (ml : Nat) (mw : Nat) (ma : Nat) (tz : Nat) (G : Nat → Int32) (b : Nat) (q : Nat) (hb : b < bz) (hz : bz ≤ 2000) (hq : q < uW) (hw : uW ≤ 16) : kC l yX5_digest cX5_digest 3 (some .int) 0 0 (0) (0) D cI cB [.ref m0, .int (nI b), .int (nI q)] [(m0, .inr (5, [.ref yb, .ref yz, .ref ye, .int (nI dz), .int (nI sz), .int (nI wz), .int (nI bz), .int (nI uS), .int (nI uW), .ref ys, .ref yg, .int (nI mr), .int (nI ml), .int (nI mw), .int (nI ma), .ref yf, .ref yh, .ref yw, .ref yn, .ref yt, .ref yl, .int (nI tz)])), (yg, .inl (cB, 32000, .inl G))] (fun (vV : Option Value) (uU : va_W) => vV = some (.int (G (16 * b + q) &&& 255)) ∧ uU = [(m0, .inr (5, [.ref yb, .ref yz, .ref ye, .int (nI dz), .int (nI sz), .int (nI wz), .int (nI bz), .int (nI uS), .int (nI uW), .ref ys, .ref yg, .int (nI mr), .int (nI ml), .int (nI mw), .int (nI ma), .ref yf, .ref yh, .ref yw, .ref yn, .ref yt, .ref yl, .int (nI tz)])), (yg, .inl (cB, 32000, .inl G))]) := by
  refine k_entry (lv0 := [(0, .ref m0), (1, .int (nI b)), (2, .int (nI q))]) (by decide) (Nat.le_of_ble_eq_true rfl) rfl ?_
  intro zp ze zs zm zb zt zc zA X hr hin
  refine k_iload_n X dX5_digest_0 rfl 1 rfl ?_
  refine k_if_lt (tgt := 42) (xi := ((b : Nat) : Int)) X (nI_toInt (by omega)) dX5_digest_1 (by decide) (fun c_1 => ?_) (fun c_1 => ?_)
  · exact absurd c_1 (by omega)
  · refine k_iload_n X dX5_digest_4 rfl 1 rfl ?_
    refine k_aload_n X dX5_digest_5 rfl 0 rfl ?_
    refine k_get (v := .int (nI bz)) X 0 5 6 rfl rfl (by decide) fl_X5_136 in_X5 rfl rfl dX5_digest_6 ?_
    refine k_icmp_ge (tgt := 42) (xi := ((b : Nat) : Int)) (yi := ((bz : Nat) : Int)) X (nI_toInt (by omega)) (nI_toInt (by omega)) dX5_digest_9 (by decide) (fun c_9 => ?_) (fun c_9 => ?_)
    · exact absurd c_9 (by omega)
    · refine k_iload_n X dX5_digest_12 rfl 2 rfl ?_
      refine k_if_lt (tgt := 42) (xi := ((q : Nat) : Int)) X (nI_toInt (by omega)) dX5_digest_13 (by decide) (fun c_13 => ?_) (fun c_13 => ?_)
      · exact absurd c_13 (by omega)
      · refine k_iload_n X dX5_digest_16 rfl 2 rfl ?_
        refine k_aload_n X dX5_digest_17 rfl 0 rfl ?_
        refine k_get (v := .int (nI uW)) X 0 5 8 rfl rfl (by decide) fl_X5_30 in_X5 rfl rfl dX5_digest_18 ?_
        refine k_icmp_ge (tgt := 42) (xi := ((q : Nat) : Int)) (yi := ((uW : Nat) : Int)) X (nI_toInt (by omega)) (nI_toInt (by omega)) dX5_digest_21 (by decide) (fun c_21 => ?_) (fun c_21 => ?_)
        · exact absurd c_21 (by omega)
        · refine k_aload_n X dX5_digest_24 rfl 0 rfl ?_
          refine k_get (v := .ref yg) X 0 5 10 rfl rfl (by decide) fl_X5_36 in_X5 rfl rfl dX5_digest_25 ?_
          refine k_bipush (v := 16) X dX5_digest_28 (by decide) ?_
          refine k_iload_n X dX5_digest_30 rfl 1 rfl ?_
          refine k_imul X dX5_digest_31 ?_
          refine k_as (y := nI (16 * b)) (n_mul 16 b) ?_
          refine k_iload_n X dX5_digest_32 rfl 2 rfl ?_
          refine k_iadd X dX5_digest_33 ?_
          refine k_as (y := nI (16 * b + q)) (nI_add _ _) ?_
          refine k_bald (v := G (16 * b + q)) X 1 rfl (vp_in_nI (n := 16 * b + q) (by omega) (by omega)) (by rw [nI_clamp (n := 16 * b + q) (by omega)]) dX5_digest_34 ?_
          refine k_sipush (v := 255) X dX5_digest_35 (by decide) ?_
          refine k_iand X dX5_digest_38 ?_
          refine k_goto (tgt := 43) X dX5_digest_39 (by decide) ?_
          exact k_iret (u := [(m0, .inr (5, [.ref yb, .ref yz, .ref ye, .int (nI dz), .int (nI sz), .int (nI wz), .int (nI bz), .int (nI uS), .int (nI uW), .ref ys, .ref yg, .int (nI mr), .int (nI ml), .int (nI mw), .int (nI ma), .ref yf, .ref yh, .ref yw, .ref yn, .ref yt, .ref yl, .int (nI tz)])), (yg, .inl (cB, 32000, .inl G))]) X hr [0, 1] (by decide) rfl rfl (⟨rfl, rfl⟩) (by (try dsimp only); omega) (by (try dsimp only); omega) dX5_digest_43
set_option maxHeartbeats 4000000 in
set_option maxRecDepth 100000 in
theorem m_digest_f (l : Launch) (D : va_G) (cI cB : ClassId) (m0 : Nat) (yb : Nat) (yz : Nat) (ye : Nat) (ys : Nat) (yg : Nat) (yf : Nat) (yh : Nat) (yw : Nat) (yn : Nat) (yt : Nat) (yl : Nat) (dz : Nat) (sz : Nat) (wz : Nat) (bz : Nat) (uS : Nat) (uW : Nat) (mr : Nat) (ml : Nat) (mw : Nat) (ma : Nat) (tz : Nat) (i : Int32) (j : Int32) (hz : bz ≤ 2000) (hw : uW ≤ 16) (hf : ¬ (rIn i bz ∧ rIn j uW)) : kC l yX5_digest cX5_digest 3 (some .int) 0 0 (0) (0) D cI cB [.ref m0, .int i, .int j] [(m0, .inr (5, [.ref yb, .ref yz, .ref ye, .int (nI dz), .int (nI sz), .int (nI wz), .int (nI bz), .int (nI uS), .int (nI uW), .ref ys, .ref yg, .int (nI mr), .int (nI ml), .int (nI mw), .int (nI ma), .ref yf, .ref yh, .ref yw, .ref yn, .ref yt, .ref yl, .int (nI tz)]))] (fun (vV : Option Value) (uU : va_W) => vV = some (.int (-1)) ∧ uU = [(m0, .inr (5, [.ref yb, .ref yz, .ref ye, .int (nI dz), .int (nI sz), .int (nI wz), .int (nI bz), .int (nI uS), .int (nI uW), .ref ys, .ref yg, .int (nI mr), .int (nI ml), .int (nI mw), .int (nI ma), .ref yf, .ref yh, .ref yw, .ref yn, .ref yt, .ref yl, .int (nI tz)]))]) := by
  refine k_entry (lv0 := [(0, .ref m0), (1, .int i), (2, .int j)]) (by decide) (Nat.le_of_ble_eq_true rfl) rfl ?_
  intro zp ze zs zm zb zt zc zA X hr hin
  refine k_iload_n X dX5_digest_0 rfl 1 rfl ?_
  refine k_if_lt (tgt := 42) (xi := i.toInt) X (rfl) dX5_digest_1 (by decide) (fun c_1 => ?_) (fun c_1 => ?_)
  · refine k_iconst (v := -1) X dX5_digest_42 (by decide) ?_
    exact k_iret (u := [(m0, .inr (5, [.ref yb, .ref yz, .ref ye, .int (nI dz), .int (nI sz), .int (nI wz), .int (nI bz), .int (nI uS), .int (nI uW), .ref ys, .ref yg, .int (nI mr), .int (nI ml), .int (nI mw), .int (nI ma), .ref yf, .ref yh, .ref yw, .ref yn, .ref yt, .ref yl, .int (nI tz)]))]) X hr [0] (by decide) rfl rfl (⟨rfl, rfl⟩) (by (try dsimp only); omega) (by (try dsimp only); omega) dX5_digest_43
  · refine k_iload_n X dX5_digest_4 rfl 1 rfl ?_
    refine k_aload_n X dX5_digest_5 rfl 0 rfl ?_
    refine k_get (v := .int (nI bz)) X 0 5 6 rfl rfl (by decide) fl_X5_136 in_X5 rfl rfl dX5_digest_6 ?_
    refine k_icmp_ge (tgt := 42) (xi := i.toInt) (yi := ((bz : Nat) : Int)) X (rfl) (nI_toInt (by omega)) dX5_digest_9 (by decide) (fun c_9 => ?_) (fun c_9 => ?_)
    · refine k_iconst (v := -1) X dX5_digest_42 (by decide) ?_
      exact k_iret (u := [(m0, .inr (5, [.ref yb, .ref yz, .ref ye, .int (nI dz), .int (nI sz), .int (nI wz), .int (nI bz), .int (nI uS), .int (nI uW), .ref ys, .ref yg, .int (nI mr), .int (nI ml), .int (nI mw), .int (nI ma), .ref yf, .ref yh, .ref yw, .ref yn, .ref yt, .ref yl, .int (nI tz)]))]) X hr [0] (by decide) rfl rfl (⟨rfl, rfl⟩) (by (try dsimp only); omega) (by (try dsimp only); omega) dX5_digest_43
    · refine k_iload_n X dX5_digest_12 rfl 2 rfl ?_
      refine k_if_lt (tgt := 42) (xi := j.toInt) X (rfl) dX5_digest_13 (by decide) (fun c_13 => ?_) (fun c_13 => ?_)
      · refine k_iconst (v := -1) X dX5_digest_42 (by decide) ?_
        exact k_iret (u := [(m0, .inr (5, [.ref yb, .ref yz, .ref ye, .int (nI dz), .int (nI sz), .int (nI wz), .int (nI bz), .int (nI uS), .int (nI uW), .ref ys, .ref yg, .int (nI mr), .int (nI ml), .int (nI mw), .int (nI ma), .ref yf, .ref yh, .ref yw, .ref yn, .ref yt, .ref yl, .int (nI tz)]))]) X hr [0] (by decide) rfl rfl (⟨rfl, rfl⟩) (by (try dsimp only); omega) (by (try dsimp only); omega) dX5_digest_43
      · refine k_iload_n X dX5_digest_16 rfl 2 rfl ?_
        refine k_aload_n X dX5_digest_17 rfl 0 rfl ?_
        refine k_get (v := .int (nI uW)) X 0 5 8 rfl rfl (by decide) fl_X5_30 in_X5 rfl rfl dX5_digest_18 ?_
        refine k_icmp_ge (tgt := 42) (xi := j.toInt) (yi := ((uW : Nat) : Int)) X (rfl) (nI_toInt (by omega)) dX5_digest_21 (by decide) (fun c_21 => ?_) (fun c_21 => ?_)
        · refine k_iconst (v := -1) X dX5_digest_42 (by decide) ?_
          exact k_iret (u := [(m0, .inr (5, [.ref yb, .ref yz, .ref ye, .int (nI dz), .int (nI sz), .int (nI wz), .int (nI bz), .int (nI uS), .int (nI uW), .ref ys, .ref yg, .int (nI mr), .int (nI ml), .int (nI mw), .int (nI ma), .ref yf, .ref yh, .ref yw, .ref yn, .ref yt, .ref yl, .int (nI tz)]))]) X hr [0] (by decide) rfl rfl (⟨rfl, rfl⟩) (by (try dsimp only); omega) (by (try dsimp only); omega) dX5_digest_43
        · exact absurd c_21 (by omega)
set_option maxHeartbeats 4000000 in
set_option maxRecDepth 100000 in
theorem m_size_0 (l : Launch) (D : va_G) (cI cB : ClassId) (m0 : Nat) (yb : Nat) (yz : Nat) (ye : Nat) (ys : Nat) (yg : Nat) (yf : Nat) (yh : Nat) (yw : Nat) (yn : Nat) (yt : Nat) (yl : Nat) (dz : Nat) (sz : Nat) (wz : Nat) (bz : Nat) (uS : Nat) (uW : Nat) (mr : Nat) (ml : Nat) (mw : Nat) (ma : Nat) (tz : Nat) (ko : Nat) (kn : Nat) (kr : Nat)  : kC l yX5_size cX5_size 2 (some .int) 0 0 (0) (0) D cI cB [.ref m0, .int 0] [(m0, .inr (5, [.ref yb, .ref yz, .ref ye, .int (nI dz), .int (nI sz), .int (nI wz), .int (nI bz), .int (nI uS), .int (nI uW), .ref ys, .ref yg, .int (nI mr), .int (nI ml), .int (nI mw), .int (nI ma), .ref yf, .ref yh, .ref yw, .ref yn, .ref yt, .ref yl, .int (nI tz)])), (yz, .inl (cI, 3, .inl (zf ko kn kr)))] (fun (vV : Option Value) (uU : va_W) => vV = some (.int (nI ko)) ∧ uU = [(m0, .inr (5, [.ref yb, .ref yz, .ref ye, .int (nI dz), .int (nI sz), .int (nI wz), .int (nI bz), .int (nI uS), .int (nI uW), .ref ys, .ref yg, .int (nI mr), .int (nI ml), .int (nI mw), .int (nI ma), .ref yf, .ref yh, .ref yw, .ref yn, .ref yt, .ref yl, .int (nI tz)])), (yz, .inl (cI, 3, .inl (zf ko kn kr)))]) := by
  refine k_entry (lv0 := [(0, .ref m0), (1, .int 0)]) (by decide) (Nat.le_of_ble_eq_true rfl) rfl ?_
  intro zp ze zs zm zb zt zc zA X hr hin
  refine k_iload_n X dX5_size_0 rfl 1 rfl ?_
  refine k_if_eq (tgt := 9) (xi := (0 : Int)) X (by decide) dX5_size_1 (by decide) (fun c_1 => ?_) (fun c_1 => ?_)
  · refine k_aload_n X dX5_size_9 rfl 0 rfl ?_
    refine k_get (v := .ref yz) X 0 5 1 rfl rfl (by decide) fl_X5_13 in_X5 rfl rfl dX5_size_10 ?_
    refine k_iload_n X dX5_size_13 rfl 1 rfl ?_
    refine k_iald (v := (zf ko kn kr) 0) X 1 rfl (vp_in_nI (n := 0) (by omega) (by omega)) (by rw [show ((0 : Int32).toNatClampNeg) = 0 from rfl]) dX5_size_14 ?_
    refine k_as (y := nI ko) (rfl) ?_
    refine k_goto (tgt := 45) X dX5_size_15 (by decide) ?_
    exact k_iret (u := [(m0, .inr (5, [.ref yb, .ref yz, .ref ye, .int (nI dz), .int (nI sz), .int (nI wz), .int (nI bz), .int (nI uS), .int (nI uW), .ref ys, .ref yg, .int (nI mr), .int (nI ml), .int (nI mw), .int (nI ma), .ref yf, .ref yh, .ref yw, .ref yn, .ref yt, .ref yl, .int (nI tz)])), (yz, .inl (cI, 3, .inl (zf ko kn kr)))]) X hr [0, 1] (by decide) rfl rfl (⟨rfl, rfl⟩) (by (try dsimp only); omega) (by (try dsimp only); omega) dX5_size_45
  · exact absurd c_1 (by decide)
set_option maxHeartbeats 4000000 in
set_option maxRecDepth 100000 in
theorem m_size_1 (l : Launch) (D : va_G) (cI cB : ClassId) (m0 : Nat) (yb : Nat) (yz : Nat) (ye : Nat) (ys : Nat) (yg : Nat) (yf : Nat) (yh : Nat) (yw : Nat) (yn : Nat) (yt : Nat) (yl : Nat) (dz : Nat) (sz : Nat) (wz : Nat) (bz : Nat) (uS : Nat) (uW : Nat) (mr : Nat) (ml : Nat) (mw : Nat) (ma : Nat) (tz : Nat) (ko : Nat) (kn : Nat) (kr : Nat)  : kC l yX5_size cX5_size 2 (some .int) 0 0 (0) (0) D cI cB [.ref m0, .int 1] [(m0, .inr (5, [.ref yb, .ref yz, .ref ye, .int (nI dz), .int (nI sz), .int (nI wz), .int (nI bz), .int (nI uS), .int (nI uW), .ref ys, .ref yg, .int (nI mr), .int (nI ml), .int (nI mw), .int (nI ma), .ref yf, .ref yh, .ref yw, .ref yn, .ref yt, .ref yl, .int (nI tz)])), (yz, .inl (cI, 3, .inl (zf ko kn kr)))] (fun (vV : Option Value) (uU : va_W) => vV = some (.int (nI kn)) ∧ uU = [(m0, .inr (5, [.ref yb, .ref yz, .ref ye, .int (nI dz), .int (nI sz), .int (nI wz), .int (nI bz), .int (nI uS), .int (nI uW), .ref ys, .ref yg, .int (nI mr), .int (nI ml), .int (nI mw), .int (nI ma), .ref yf, .ref yh, .ref yw, .ref yn, .ref yt, .ref yl, .int (nI tz)])), (yz, .inl (cI, 3, .inl (zf ko kn kr)))]) := by
  refine k_entry (lv0 := [(0, .ref m0), (1, .int 1)]) (by decide) (Nat.le_of_ble_eq_true rfl) rfl ?_
  intro zp ze zs zm zb zt zc zA X hr hin
  refine k_iload_n X dX5_size_0 rfl 1 rfl ?_
  refine k_if_eq (tgt := 9) (xi := (1 : Int)) X (by decide) dX5_size_1 (by decide) (fun c_1 => ?_) (fun c_1 => ?_)
  · exact absurd c_1 (by decide)
  · refine k_iload_n X dX5_size_4 rfl 1 rfl ?_
    refine k_iconst (v := 1) X dX5_size_5 (by decide) ?_
    refine k_icmp_ne (tgt := 18) (xi := (1 : Int)) (yi := (1 : Int)) X (by decide) (by decide) dX5_size_6 (by decide) (fun c_6 => ?_) (fun c_6 => ?_)
    · exact absurd c_6 (by decide)
    · refine k_aload_n X dX5_size_9 rfl 0 rfl ?_
      refine k_get (v := .ref yz) X 0 5 1 rfl rfl (by decide) fl_X5_13 in_X5 rfl rfl dX5_size_10 ?_
      refine k_iload_n X dX5_size_13 rfl 1 rfl ?_
      refine k_iald (v := (zf ko kn kr) 1) X 1 rfl (vp_in_nI (n := 1) (by omega) (by omega)) (by rw [show ((1 : Int32).toNatClampNeg) = 1 from rfl]) dX5_size_14 ?_
      refine k_as (y := nI kn) (rfl) ?_
      refine k_goto (tgt := 45) X dX5_size_15 (by decide) ?_
      exact k_iret (u := [(m0, .inr (5, [.ref yb, .ref yz, .ref ye, .int (nI dz), .int (nI sz), .int (nI wz), .int (nI bz), .int (nI uS), .int (nI uW), .ref ys, .ref yg, .int (nI mr), .int (nI ml), .int (nI mw), .int (nI ma), .ref yf, .ref yh, .ref yw, .ref yn, .ref yt, .ref yl, .int (nI tz)])), (yz, .inl (cI, 3, .inl (zf ko kn kr)))]) X hr [0, 1] (by decide) rfl rfl (⟨rfl, rfl⟩) (by (try dsimp only); omega) (by (try dsimp only); omega) dX5_size_45
set_option maxHeartbeats 4000000 in
set_option maxRecDepth 100000 in
theorem m_size_2 (l : Launch) (D : va_G) (cI cB : ClassId) (m0 : Nat) (yb : Nat) (yz : Nat) (ye : Nat) (ys : Nat) (yg : Nat) (yf : Nat) (yh : Nat) (yw : Nat) (yn : Nat) (yt : Nat) (yl : Nat) (dz : Nat) (sz : Nat) (wz : Nat) (bz : Nat) (uS : Nat) (uW : Nat) (mr : Nat) (ml : Nat) (mw : Nat) (ma : Nat) (tz : Nat) (ko : Nat) (kn : Nat) (kr : Nat)  : kC l yX5_size cX5_size 2 (some .int) 0 0 (0) (0) D cI cB [.ref m0, .int 2] [(m0, .inr (5, [.ref yb, .ref yz, .ref ye, .int (nI dz), .int (nI sz), .int (nI wz), .int (nI bz), .int (nI uS), .int (nI uW), .ref ys, .ref yg, .int (nI mr), .int (nI ml), .int (nI mw), .int (nI ma), .ref yf, .ref yh, .ref yw, .ref yn, .ref yt, .ref yl, .int (nI tz)])), (yz, .inl (cI, 3, .inl (zf ko kn kr)))] (fun (vV : Option Value) (uU : va_W) => vV = some (.int (nI dz)) ∧ uU = [(m0, .inr (5, [.ref yb, .ref yz, .ref ye, .int (nI dz), .int (nI sz), .int (nI wz), .int (nI bz), .int (nI uS), .int (nI uW), .ref ys, .ref yg, .int (nI mr), .int (nI ml), .int (nI mw), .int (nI ma), .ref yf, .ref yh, .ref yw, .ref yn, .ref yt, .ref yl, .int (nI tz)])), (yz, .inl (cI, 3, .inl (zf ko kn kr)))]) := by
  refine k_entry (lv0 := [(0, .ref m0), (1, .int 2)]) (by decide) (Nat.le_of_ble_eq_true rfl) rfl ?_
  intro zp ze zs zm zb zt zc zA X hr hin
  refine k_iload_n X dX5_size_0 rfl 1 rfl ?_
  refine k_if_eq (tgt := 9) (xi := (2 : Int)) X (by decide) dX5_size_1 (by decide) (fun c_1 => ?_) (fun c_1 => ?_)
  · exact absurd c_1 (by decide)
  · refine k_iload_n X dX5_size_4 rfl 1 rfl ?_
    refine k_iconst (v := 1) X dX5_size_5 (by decide) ?_
    refine k_icmp_ne (tgt := 18) (xi := (2 : Int)) (yi := (1 : Int)) X (by decide) (by decide) dX5_size_6 (by decide) (fun c_6 => ?_) (fun c_6 => ?_)
    · refine k_iload_n X dX5_size_18 rfl 1 rfl ?_
      refine k_iconst (v := 2) X dX5_size_19 (by decide) ?_
      refine k_icmp_ne (tgt := 30) (xi := (2 : Int)) (yi := (2 : Int)) X (by decide) (by decide) dX5_size_20 (by decide) (fun c_20 => ?_) (fun c_20 => ?_)
      · exact absurd c_20 (by decide)
      · refine k_aload_n X dX5_size_23 rfl 0 rfl ?_
        refine k_get (v := .int (nI dz)) X 0 5 3 rfl rfl (by decide) fl_X5_157 in_X5 rfl rfl dX5_size_24 ?_
        refine k_goto (tgt := 45) X dX5_size_27 (by decide) ?_
        exact k_iret (u := [(m0, .inr (5, [.ref yb, .ref yz, .ref ye, .int (nI dz), .int (nI sz), .int (nI wz), .int (nI bz), .int (nI uS), .int (nI uW), .ref ys, .ref yg, .int (nI mr), .int (nI ml), .int (nI mw), .int (nI ma), .ref yf, .ref yh, .ref yw, .ref yn, .ref yt, .ref yl, .int (nI tz)])), (yz, .inl (cI, 3, .inl (zf ko kn kr)))]) X hr [0, 1] (by decide) rfl rfl (⟨rfl, rfl⟩) (by (try dsimp only); omega) (by (try dsimp only); omega) dX5_size_45
    · exact absurd c_6 (by decide)
set_option maxHeartbeats 4000000 in
set_option maxRecDepth 100000 in
theorem m_size_3 (l : Launch) (D : va_G) (cI cB : ClassId) (m0 : Nat) (yb : Nat) (yz : Nat) (ye : Nat) (ys : Nat) (yg : Nat) (yf : Nat) (yh : Nat) (yw : Nat) (yn : Nat) (yt : Nat) (yl : Nat) (dz : Nat) (sz : Nat) (wz : Nat) (bz : Nat) (uS : Nat) (uW : Nat) (mr : Nat) (ml : Nat) (mw : Nat) (ma : Nat) (tz : Nat) (ko : Nat) (kn : Nat) (kr : Nat)  : kC l yX5_size cX5_size 2 (some .int) 0 0 (0) (0) D cI cB [.ref m0, .int 3] [(m0, .inr (5, [.ref yb, .ref yz, .ref ye, .int (nI dz), .int (nI sz), .int (nI wz), .int (nI bz), .int (nI uS), .int (nI uW), .ref ys, .ref yg, .int (nI mr), .int (nI ml), .int (nI mw), .int (nI ma), .ref yf, .ref yh, .ref yw, .ref yn, .ref yt, .ref yl, .int (nI tz)])), (yz, .inl (cI, 3, .inl (zf ko kn kr)))] (fun (vV : Option Value) (uU : va_W) => vV = some (.int (nI kr)) ∧ uU = [(m0, .inr (5, [.ref yb, .ref yz, .ref ye, .int (nI dz), .int (nI sz), .int (nI wz), .int (nI bz), .int (nI uS), .int (nI uW), .ref ys, .ref yg, .int (nI mr), .int (nI ml), .int (nI mw), .int (nI ma), .ref yf, .ref yh, .ref yw, .ref yn, .ref yt, .ref yl, .int (nI tz)])), (yz, .inl (cI, 3, .inl (zf ko kn kr)))]) := by
  refine k_entry (lv0 := [(0, .ref m0), (1, .int 3)]) (by decide) (Nat.le_of_ble_eq_true rfl) rfl ?_
  intro zp ze zs zm zb zt zc zA X hr hin
  refine k_iload_n X dX5_size_0 rfl 1 rfl ?_
  refine k_if_eq (tgt := 9) (xi := (3 : Int)) X (by decide) dX5_size_1 (by decide) (fun c_1 => ?_) (fun c_1 => ?_)
  · exact absurd c_1 (by decide)
  · refine k_iload_n X dX5_size_4 rfl 1 rfl ?_
    refine k_iconst (v := 1) X dX5_size_5 (by decide) ?_
    refine k_icmp_ne (tgt := 18) (xi := (3 : Int)) (yi := (1 : Int)) X (by decide) (by decide) dX5_size_6 (by decide) (fun c_6 => ?_) (fun c_6 => ?_)
    · refine k_iload_n X dX5_size_18 rfl 1 rfl ?_
      refine k_iconst (v := 2) X dX5_size_19 (by decide) ?_
      refine k_icmp_ne (tgt := 30) (xi := (3 : Int)) (yi := (2 : Int)) X (by decide) (by decide) dX5_size_20 (by decide) (fun c_20 => ?_) (fun c_20 => ?_)
      · refine k_iload_n X dX5_size_30 rfl 1 rfl ?_
        refine k_iconst (v := 3) X dX5_size_31 (by decide) ?_
        refine k_icmp_ne (tgt := 44) (xi := (3 : Int)) (yi := (3 : Int)) X (by decide) (by decide) dX5_size_32 (by decide) (fun c_32 => ?_) (fun c_32 => ?_)
        · exact absurd c_32 (by decide)
        · refine k_aload_n X dX5_size_35 rfl 0 rfl ?_
          refine k_get (v := .ref yz) X 0 5 1 rfl rfl (by decide) fl_X5_13 in_X5 rfl rfl dX5_size_36 ?_
          refine k_iconst (v := 2) X dX5_size_39 (by decide) ?_
          refine k_iald (v := (zf ko kn kr) 2) X 1 rfl (vp_in_nI (n := 2) (by omega) (by omega)) (by rw [show ((2 : Int32).toNatClampNeg) = 2 from rfl]) dX5_size_40 ?_
          refine k_as (y := nI kr) (rfl) ?_
          refine k_goto (tgt := 45) X dX5_size_41 (by decide) ?_
          exact k_iret (u := [(m0, .inr (5, [.ref yb, .ref yz, .ref ye, .int (nI dz), .int (nI sz), .int (nI wz), .int (nI bz), .int (nI uS), .int (nI uW), .ref ys, .ref yg, .int (nI mr), .int (nI ml), .int (nI mw), .int (nI ma), .ref yf, .ref yh, .ref yw, .ref yn, .ref yt, .ref yl, .int (nI tz)])), (yz, .inl (cI, 3, .inl (zf ko kn kr)))]) X hr [0, 1] (by decide) rfl rfl (⟨rfl, rfl⟩) (by (try dsimp only); omega) (by (try dsimp only); omega) dX5_size_45
      · exact absurd c_20 (by decide)
    · exact absurd c_6 (by decide)
set_option maxHeartbeats 4000000 in
set_option maxRecDepth 100000 in
theorem m_size_f (l : Launch) (D : va_G) (cI cB : ClassId) (m0 : Nat) (yb : Nat) (yz : Nat) (ye : Nat) (ys : Nat) (yg : Nat) (yf : Nat) (yh : Nat) (yw : Nat) (yn : Nat) (yt : Nat) (yl : Nat) (dz : Nat) (sz : Nat) (wz : Nat) (bz : Nat) (uS : Nat) (uW : Nat) (mr : Nat) (ml : Nat) (mw : Nat) (ma : Nat) (tz : Nat) (wh : Int32) (hwh : wh.toInt < 0 ∨ 3 < wh.toInt) : kC l yX5_size cX5_size 2 (some .int) 0 0 (0) (0) D cI cB [.ref m0, .int wh] [(m0, .inr (5, [.ref yb, .ref yz, .ref ye, .int (nI dz), .int (nI sz), .int (nI wz), .int (nI bz), .int (nI uS), .int (nI uW), .ref ys, .ref yg, .int (nI mr), .int (nI ml), .int (nI mw), .int (nI ma), .ref yf, .ref yh, .ref yw, .ref yn, .ref yt, .ref yl, .int (nI tz)]))] (fun (vV : Option Value) (uU : va_W) => vV = some (.int (-1)) ∧ uU = [(m0, .inr (5, [.ref yb, .ref yz, .ref ye, .int (nI dz), .int (nI sz), .int (nI wz), .int (nI bz), .int (nI uS), .int (nI uW), .ref ys, .ref yg, .int (nI mr), .int (nI ml), .int (nI mw), .int (nI ma), .ref yf, .ref yh, .ref yw, .ref yn, .ref yt, .ref yl, .int (nI tz)]))]) := by
  refine k_entry (lv0 := [(0, .ref m0), (1, .int wh)]) (by decide) (Nat.le_of_ble_eq_true rfl) rfl ?_
  intro zp ze zs zm zb zt zc zA X hr hin
  refine k_iload_n X dX5_size_0 rfl 1 rfl ?_
  refine k_if_eq (tgt := 9) (xi := wh.toInt) X (rfl) dX5_size_1 (by decide) (fun c_1 => ?_) (fun c_1 => ?_)
  · exact absurd c_1 (by omega)
  · refine k_iload_n X dX5_size_4 rfl 1 rfl ?_
    refine k_iconst (v := 1) X dX5_size_5 (by decide) ?_
    refine k_icmp_ne (tgt := 18) (xi := wh.toInt) (yi := (1 : Int)) X (rfl) (by decide) dX5_size_6 (by decide) (fun c_6 => ?_) (fun c_6 => ?_)
    · refine k_iload_n X dX5_size_18 rfl 1 rfl ?_
      refine k_iconst (v := 2) X dX5_size_19 (by decide) ?_
      refine k_icmp_ne (tgt := 30) (xi := wh.toInt) (yi := (2 : Int)) X (rfl) (by decide) dX5_size_20 (by decide) (fun c_20 => ?_) (fun c_20 => ?_)
      · refine k_iload_n X dX5_size_30 rfl 1 rfl ?_
        refine k_iconst (v := 3) X dX5_size_31 (by decide) ?_
        refine k_icmp_ne (tgt := 44) (xi := wh.toInt) (yi := (3 : Int)) X (rfl) (by decide) dX5_size_32 (by decide) (fun c_32 => ?_) (fun c_32 => ?_)
        · refine k_iconst (v := -1) X dX5_size_44 (by decide) ?_
          exact k_iret (u := [(m0, .inr (5, [.ref yb, .ref yz, .ref ye, .int (nI dz), .int (nI sz), .int (nI wz), .int (nI bz), .int (nI uS), .int (nI uW), .ref ys, .ref yg, .int (nI mr), .int (nI ml), .int (nI mw), .int (nI ma), .ref yf, .ref yh, .ref yw, .ref yn, .ref yt, .ref yl, .int (nI tz)]))]) X hr [0] (by decide) rfl rfl (⟨rfl, rfl⟩) (by (try dsimp only); omega) (by (try dsimp only); omega) dX5_size_45
        · exact absurd c_32 (by omega)
      · exact absurd c_20 (by omega)
    · exact absurd c_6 (by omega)
set_option maxHeartbeats 4000000 in
set_option maxRecDepth 100000 in
theorem m_at_0 (l : Launch) (D : va_G) (cI cB : ClassId) (m0 : Nat) (yb : Nat) (yz : Nat) (ye : Nat) (ys : Nat) (yg : Nat) (yf : Nat) (yh : Nat) (yw : Nat) (yn : Nat) (yt : Nat) (yl : Nat) (dz : Nat) (sz : Nat) (wz : Nat) (bz : Nat) (uS : Nat) (uW : Nat) (mr : Nat) (ml : Nat) (mw : Nat) (ma : Nat) (tz : Nat) (B : Nat → Int32) (E : Nat → Int32) (ko : Nat) (kn : Nat) (kr : Nat) (j : Nat) (hj : j < ko) (hk : ko ≤ 2000) : kC l yX5_at cX5_at 3 (some .int) 1 21 (0) (0) D cI cB [.ref m0, .int 0, .int (nI j)] [(m0, .inr (5, [.ref yb, .ref yz, .ref ye, .int (nI dz), .int (nI sz), .int (nI wz), .int (nI bz), .int (nI uS), .int (nI uW), .ref ys, .ref yg, .int (nI mr), .int (nI ml), .int (nI mw), .int (nI ma), .ref yf, .ref yh, .ref yw, .ref yn, .ref yt, .ref yl, .int (nI tz)])), (yb, .inl (cB, 6000, .inl B)), (ye, .inl (cB, 8100, .inl E)), (yz, .inl (cI, 3, .inl (zf ko kn kr)))] (fun (vV : Option Value) (uU : va_W) => vV = some (.int (B (0 + j) &&& 255)) ∧ uU = [(m0, .inr (5, [.ref yb, .ref yz, .ref ye, .int (nI dz), .int (nI sz), .int (nI wz), .int (nI bz), .int (nI uS), .int (nI uW), .ref ys, .ref yg, .int (nI mr), .int (nI ml), .int (nI mw), .int (nI ma), .ref yf, .ref yh, .ref yw, .ref yn, .ref yt, .ref yl, .int (nI tz)])), (yb, .inl (cB, 6000, .inl B)), (ye, .inl (cB, 8100, .inl E)), (yz, .inl (cI, 3, .inl (zf ko kn kr)))]) := by
  refine k_entry (lv0 := [(0, .ref m0), (1, .int 0), (2, .int (nI j))]) (by decide) (Nat.le_of_ble_eq_true rfl) rfl ?_
  intro zp ze zs zm zb zt zc zA X hr hin
  refine k_iload_n X dX5_at_0 rfl 1 rfl ?_
  refine k_if_lt (tgt := 22) (xi := (0 : Int)) X (by decide) dX5_at_1 (by decide) (fun c_1 => ?_) (fun c_1 => ?_)
  · exact absurd c_1 (by decide)
  · refine k_iload_n X dX5_at_4 rfl 1 rfl ?_
    refine k_iconst (v := 3) X dX5_at_5 (by decide) ?_
    refine k_icmp_gt (tgt := 22) (xi := (0 : Int)) (yi := (3 : Int)) X (by decide) (by decide) dX5_at_6 (by decide) (fun c_6 => ?_) (fun c_6 => ?_)
    · exact absurd c_6 (by decide)
    · refine k_iload_n X dX5_at_9 rfl 2 rfl ?_
      refine k_if_lt (tgt := 22) (xi := ((j : Nat) : Int)) X (nI_toInt (by omega)) dX5_at_10 (by decide) (fun c_10 => ?_) (fun c_10 => ?_)
      · exact absurd c_10 (by omega)
      · refine k_iload_n X dX5_at_13 rfl 2 rfl ?_
        refine k_aload_n X dX5_at_14 rfl 0 rfl ?_
        refine k_iload_n X dX5_at_15 rfl 1 rfl ?_
        refine k_callV (wc := [(m0, .inr (5, [.ref yb, .ref yz, .ref ye, .int (nI dz), .int (nI sz), .int (nI wz), .int (nI bz), .int (nI uS), .int (nI uW), .ref ys, .ref yg, .int (nI mr), .int (nI ml), .int (nI mw), .int (nI ma), .ref yf, .ref yh, .ref yw, .ref yn, .ref yt, .ref yl, .int (nI tz)])), (yz, .inl (cI, 3, .inl (zf ko kn kr)))]) (wr := [(yb, .inl (cB, 6000, .inl B)), (ye, .inl (cB, 8100, .inl E))]) (As := [.int 0]) (n := 1) (st := [.int (nI j)]) (q0 := 0) X (m_size_0 l D cI cB m0 yb yz ye ys yg yf yh yw yn yt yl dz sz wz bz uS uW mr ml mw ma tz ko kn kr ) rfl rfl ml_X5_178 im_X5_size se_X5_size ini_X5 co_X5_size (by decide +kernel) rfl ⟨Nat.le_of_ble_eq_true rfl, Nat.le_of_ble_eq_true rfl⟩ (⟨by (try dsimp only); omega, by (try dsimp only); omega⟩) (Nat.le_of_ble_eq_true rfl) [0, 3] [1, 2] rfl rfl rfl (by decide) (by decide) (by decide) rfl dX5_at_16 (fun v_16 u_16 hu_16 => ?_)
        obtain ⟨rfl, rfl⟩ := hu_16
        refine k_to (ws' := [(yb, .inl (cB, 6000, .inl B)), (ye, .inl (cB, 8100, .inl E)), (m0, .inr (5, [.ref yb, .ref yz, .ref ye, .int (nI dz), .int (nI sz), .int (nI wz), .int (nI bz), .int (nI uS), .int (nI uW), .ref ys, .ref yg, .int (nI mr), .int (nI ml), .int (nI mw), .int (nI ma), .ref yf, .ref yh, .ref yw, .ref yn, .ref yt, .ref yl, .int (nI tz)])), (yz, .inl (cI, 3, .inl (zf ko kn kr)))]) (st' := [.int (nI ko), .int (nI j)]) rfl rfl ?_
        refine k_icmp_lt (tgt := 24) (xi := ((j : Nat) : Int)) (yi := ((ko : Nat) : Int)) X (nI_toInt (by omega)) (nI_toInt (by omega)) dX5_at_19 (by decide) (fun c_19 => ?_) (fun c_19 => ?_)
        · refine k_iload_n X dX5_at_24 rfl 1 rfl ?_
          refine k_iconst (v := 2) X dX5_at_25 (by decide) ?_
          refine k_icmp_ne (tgt := 38) (xi := (0 : Int)) (yi := (2 : Int)) X (by decide) (by decide) dX5_at_26 (by decide) (fun c_26 => ?_) (fun c_26 => ?_)
          · refine k_aload_n X dX5_at_38 rfl 0 rfl ?_
            refine k_get (v := .ref yb) X 2 5 0 rfl rfl (by decide) fl_X5_7 in_X5 rfl rfl dX5_at_39 ?_
            refine k_sipush (v := 2000) X dX5_at_42 (by decide) ?_
            refine k_iload_n X dX5_at_45 rfl 1 rfl ?_
            refine k_iconst (v := 3) X dX5_at_46 (by decide) ?_
            refine k_icmp_ne (tgt := 54) (xi := (0 : Int)) (yi := (3 : Int)) X (by decide) (by decide) dX5_at_47 (by decide) (fun c_47 => ?_) (fun c_47 => ?_)
            · refine k_iload_n X dX5_at_54 rfl 1 rfl ?_
              refine k_imul X dX5_at_55 ?_
              refine k_as (y := 0) (by decide) ?_
              refine k_iload_n X dX5_at_56 rfl 2 rfl ?_
              refine k_iadd X dX5_at_57 ?_
              refine k_as (y := nI (0 + j)) (nI_add 0 j) ?_
              refine k_bald (v := B (0 + j)) X 0 rfl (vp_in_nI (n := 0 + j) (by omega) (by omega)) (by rw [nI_clamp (n := 0 + j) (by omega)]) dX5_at_58 ?_
              refine k_sipush (v := 255) X dX5_at_59 (by decide) ?_
              refine k_iand X dX5_at_62 ?_
              exact k_iret (u := [(m0, .inr (5, [.ref yb, .ref yz, .ref ye, .int (nI dz), .int (nI sz), .int (nI wz), .int (nI bz), .int (nI uS), .int (nI uW), .ref ys, .ref yg, .int (nI mr), .int (nI ml), .int (nI mw), .int (nI ma), .ref yf, .ref yh, .ref yw, .ref yn, .ref yt, .ref yl, .int (nI tz)])), (yb, .inl (cB, 6000, .inl B)), (ye, .inl (cB, 8100, .inl E)), (yz, .inl (cI, 3, .inl (zf ko kn kr)))]) X hr [2, 0, 1, 3] (by decide) rfl rfl (⟨rfl, rfl⟩) (by (try dsimp only); omega) (by (try dsimp only); omega) dX5_at_63
            · exact absurd c_47 (by decide)
          · exact absurd c_26 (by decide)
        · exact absurd c_19 (by omega)
set_option maxHeartbeats 4000000 in
set_option maxRecDepth 100000 in
theorem m_at_0f (l : Launch) (D : va_G) (cI cB : ClassId) (m0 : Nat) (yb : Nat) (yz : Nat) (ye : Nat) (ys : Nat) (yg : Nat) (yf : Nat) (yh : Nat) (yw : Nat) (yn : Nat) (yt : Nat) (yl : Nat) (dz : Nat) (sz : Nat) (wz : Nat) (bz : Nat) (uS : Nat) (uW : Nat) (mr : Nat) (ml : Nat) (mw : Nat) (ma : Nat) (tz : Nat) (ko : Nat) (kn : Nat) (kr : Nat) (x : Int32) (hk : ko ≤ 2000) (hx : ¬ rIn x ko) : kC l yX5_at cX5_at 3 (some .int) 1 21 (0) (0) D cI cB [.ref m0, .int 0, .int x] [(m0, .inr (5, [.ref yb, .ref yz, .ref ye, .int (nI dz), .int (nI sz), .int (nI wz), .int (nI bz), .int (nI uS), .int (nI uW), .ref ys, .ref yg, .int (nI mr), .int (nI ml), .int (nI mw), .int (nI ma), .ref yf, .ref yh, .ref yw, .ref yn, .ref yt, .ref yl, .int (nI tz)])), (yz, .inl (cI, 3, .inl (zf ko kn kr)))] (fun (vV : Option Value) (uU : va_W) => vV = some (.int (-1)) ∧ uU = [(m0, .inr (5, [.ref yb, .ref yz, .ref ye, .int (nI dz), .int (nI sz), .int (nI wz), .int (nI bz), .int (nI uS), .int (nI uW), .ref ys, .ref yg, .int (nI mr), .int (nI ml), .int (nI mw), .int (nI ma), .ref yf, .ref yh, .ref yw, .ref yn, .ref yt, .ref yl, .int (nI tz)])), (yz, .inl (cI, 3, .inl (zf ko kn kr)))]) := by
  refine k_entry (lv0 := [(0, .ref m0), (1, .int 0), (2, .int x)]) (by decide) (Nat.le_of_ble_eq_true rfl) rfl ?_
  intro zp ze zs zm zb zt zc zA X hr hin
  refine k_iload_n X dX5_at_0 rfl 1 rfl ?_
  refine k_if_lt (tgt := 22) (xi := (0 : Int)) X (by decide) dX5_at_1 (by decide) (fun c_1 => ?_) (fun c_1 => ?_)
  · exact absurd c_1 (by decide)
  · refine k_iload_n X dX5_at_4 rfl 1 rfl ?_
    refine k_iconst (v := 3) X dX5_at_5 (by decide) ?_
    refine k_icmp_gt (tgt := 22) (xi := (0 : Int)) (yi := (3 : Int)) X (by decide) (by decide) dX5_at_6 (by decide) (fun c_6 => ?_) (fun c_6 => ?_)
    · exact absurd c_6 (by decide)
    · refine k_iload_n X dX5_at_9 rfl 2 rfl ?_
      refine k_if_lt (tgt := 22) (xi := x.toInt) X (rfl) dX5_at_10 (by decide) (fun c_10 => ?_) (fun c_10 => ?_)
      · refine k_iconst (v := -1) X dX5_at_22 (by decide) ?_
        exact k_iret (u := [(m0, .inr (5, [.ref yb, .ref yz, .ref ye, .int (nI dz), .int (nI sz), .int (nI wz), .int (nI bz), .int (nI uS), .int (nI uW), .ref ys, .ref yg, .int (nI mr), .int (nI ml), .int (nI mw), .int (nI ma), .ref yf, .ref yh, .ref yw, .ref yn, .ref yt, .ref yl, .int (nI tz)])), (yz, .inl (cI, 3, .inl (zf ko kn kr)))]) X hr [0, 1] (by decide) rfl rfl (⟨rfl, rfl⟩) (by (try dsimp only); omega) (by (try dsimp only); omega) dX5_at_23
      · refine k_iload_n X dX5_at_13 rfl 2 rfl ?_
        refine k_aload_n X dX5_at_14 rfl 0 rfl ?_
        refine k_iload_n X dX5_at_15 rfl 1 rfl ?_
        refine k_callV (wc := [(m0, .inr (5, [.ref yb, .ref yz, .ref ye, .int (nI dz), .int (nI sz), .int (nI wz), .int (nI bz), .int (nI uS), .int (nI uW), .ref ys, .ref yg, .int (nI mr), .int (nI ml), .int (nI mw), .int (nI ma), .ref yf, .ref yh, .ref yw, .ref yn, .ref yt, .ref yl, .int (nI tz)])), (yz, .inl (cI, 3, .inl (zf ko kn kr)))]) (wr := []) (As := [.int 0]) (n := 1) (st := [.int x]) (q0 := 0) X (m_size_0 l D cI cB m0 yb yz ye ys yg yf yh yw yn yt yl dz sz wz bz uS uW mr ml mw ma tz ko kn kr ) rfl rfl ml_X5_178 im_X5_size se_X5_size ini_X5 co_X5_size (by decide +kernel) rfl ⟨Nat.le_of_ble_eq_true rfl, Nat.le_of_ble_eq_true rfl⟩ (⟨by (try dsimp only); omega, by (try dsimp only); omega⟩) (Nat.le_of_ble_eq_true rfl) [0, 1] [] rfl rfl rfl (by decide) (by decide) (by decide) rfl dX5_at_16 (fun v_16 u_16 hu_16 => ?_)
        obtain ⟨rfl, rfl⟩ := hu_16
        refine k_to (ws' := [(m0, .inr (5, [.ref yb, .ref yz, .ref ye, .int (nI dz), .int (nI sz), .int (nI wz), .int (nI bz), .int (nI uS), .int (nI uW), .ref ys, .ref yg, .int (nI mr), .int (nI ml), .int (nI mw), .int (nI ma), .ref yf, .ref yh, .ref yw, .ref yn, .ref yt, .ref yl, .int (nI tz)])), (yz, .inl (cI, 3, .inl (zf ko kn kr)))]) (st' := [.int (nI ko), .int x]) rfl rfl ?_
        refine k_icmp_lt (tgt := 24) (xi := x.toInt) (yi := ((ko : Nat) : Int)) X (rfl) (nI_toInt (by omega)) dX5_at_19 (by decide) (fun c_19 => ?_) (fun c_19 => ?_)
        · exact absurd c_19 (by omega)
        · refine k_iconst (v := -1) X dX5_at_22 (by decide) ?_
          exact k_iret (u := [(m0, .inr (5, [.ref yb, .ref yz, .ref ye, .int (nI dz), .int (nI sz), .int (nI wz), .int (nI bz), .int (nI uS), .int (nI uW), .ref ys, .ref yg, .int (nI mr), .int (nI ml), .int (nI mw), .int (nI ma), .ref yf, .ref yh, .ref yw, .ref yn, .ref yt, .ref yl, .int (nI tz)])), (yz, .inl (cI, 3, .inl (zf ko kn kr)))]) X hr [0, 1] (by decide) rfl rfl (⟨rfl, rfl⟩) (by (try dsimp only); omega) (by (try dsimp only); omega) dX5_at_23
set_option maxHeartbeats 4000000 in
set_option maxRecDepth 100000 in
theorem m_at_1 (l : Launch) (D : va_G) (cI cB : ClassId) (m0 : Nat) (yb : Nat) (yz : Nat) (ye : Nat) (ys : Nat) (yg : Nat) (yf : Nat) (yh : Nat) (yw : Nat) (yn : Nat) (yt : Nat) (yl : Nat) (dz : Nat) (sz : Nat) (wz : Nat) (bz : Nat) (uS : Nat) (uW : Nat) (mr : Nat) (ml : Nat) (mw : Nat) (ma : Nat) (tz : Nat) (B : Nat → Int32) (E : Nat → Int32) (ko : Nat) (kn : Nat) (kr : Nat) (j : Nat) (hj : j < kn) (hk : kn ≤ 2000) : kC l yX5_at cX5_at 3 (some .int) 1 21 (0) (0) D cI cB [.ref m0, .int 1, .int (nI j)] [(m0, .inr (5, [.ref yb, .ref yz, .ref ye, .int (nI dz), .int (nI sz), .int (nI wz), .int (nI bz), .int (nI uS), .int (nI uW), .ref ys, .ref yg, .int (nI mr), .int (nI ml), .int (nI mw), .int (nI ma), .ref yf, .ref yh, .ref yw, .ref yn, .ref yt, .ref yl, .int (nI tz)])), (yb, .inl (cB, 6000, .inl B)), (ye, .inl (cB, 8100, .inl E)), (yz, .inl (cI, 3, .inl (zf ko kn kr)))] (fun (vV : Option Value) (uU : va_W) => vV = some (.int (B (2000 + j) &&& 255)) ∧ uU = [(m0, .inr (5, [.ref yb, .ref yz, .ref ye, .int (nI dz), .int (nI sz), .int (nI wz), .int (nI bz), .int (nI uS), .int (nI uW), .ref ys, .ref yg, .int (nI mr), .int (nI ml), .int (nI mw), .int (nI ma), .ref yf, .ref yh, .ref yw, .ref yn, .ref yt, .ref yl, .int (nI tz)])), (yb, .inl (cB, 6000, .inl B)), (ye, .inl (cB, 8100, .inl E)), (yz, .inl (cI, 3, .inl (zf ko kn kr)))]) := by
  refine k_entry (lv0 := [(0, .ref m0), (1, .int 1), (2, .int (nI j))]) (by decide) (Nat.le_of_ble_eq_true rfl) rfl ?_
  intro zp ze zs zm zb zt zc zA X hr hin
  refine k_iload_n X dX5_at_0 rfl 1 rfl ?_
  refine k_if_lt (tgt := 22) (xi := (1 : Int)) X (by decide) dX5_at_1 (by decide) (fun c_1 => ?_) (fun c_1 => ?_)
  · exact absurd c_1 (by decide)
  · refine k_iload_n X dX5_at_4 rfl 1 rfl ?_
    refine k_iconst (v := 3) X dX5_at_5 (by decide) ?_
    refine k_icmp_gt (tgt := 22) (xi := (1 : Int)) (yi := (3 : Int)) X (by decide) (by decide) dX5_at_6 (by decide) (fun c_6 => ?_) (fun c_6 => ?_)
    · exact absurd c_6 (by decide)
    · refine k_iload_n X dX5_at_9 rfl 2 rfl ?_
      refine k_if_lt (tgt := 22) (xi := ((j : Nat) : Int)) X (nI_toInt (by omega)) dX5_at_10 (by decide) (fun c_10 => ?_) (fun c_10 => ?_)
      · exact absurd c_10 (by omega)
      · refine k_iload_n X dX5_at_13 rfl 2 rfl ?_
        refine k_aload_n X dX5_at_14 rfl 0 rfl ?_
        refine k_iload_n X dX5_at_15 rfl 1 rfl ?_
        refine k_callV (wc := [(m0, .inr (5, [.ref yb, .ref yz, .ref ye, .int (nI dz), .int (nI sz), .int (nI wz), .int (nI bz), .int (nI uS), .int (nI uW), .ref ys, .ref yg, .int (nI mr), .int (nI ml), .int (nI mw), .int (nI ma), .ref yf, .ref yh, .ref yw, .ref yn, .ref yt, .ref yl, .int (nI tz)])), (yz, .inl (cI, 3, .inl (zf ko kn kr)))]) (wr := [(yb, .inl (cB, 6000, .inl B)), (ye, .inl (cB, 8100, .inl E))]) (As := [.int 1]) (n := 1) (st := [.int (nI j)]) (q0 := 0) X (m_size_1 l D cI cB m0 yb yz ye ys yg yf yh yw yn yt yl dz sz wz bz uS uW mr ml mw ma tz ko kn kr ) rfl rfl ml_X5_178 im_X5_size se_X5_size ini_X5 co_X5_size (by decide +kernel) rfl ⟨Nat.le_of_ble_eq_true rfl, Nat.le_of_ble_eq_true rfl⟩ (⟨by (try dsimp only); omega, by (try dsimp only); omega⟩) (Nat.le_of_ble_eq_true rfl) [0, 3] [1, 2] rfl rfl rfl (by decide) (by decide) (by decide) rfl dX5_at_16 (fun v_16 u_16 hu_16 => ?_)
        obtain ⟨rfl, rfl⟩ := hu_16
        refine k_to (ws' := [(yb, .inl (cB, 6000, .inl B)), (ye, .inl (cB, 8100, .inl E)), (m0, .inr (5, [.ref yb, .ref yz, .ref ye, .int (nI dz), .int (nI sz), .int (nI wz), .int (nI bz), .int (nI uS), .int (nI uW), .ref ys, .ref yg, .int (nI mr), .int (nI ml), .int (nI mw), .int (nI ma), .ref yf, .ref yh, .ref yw, .ref yn, .ref yt, .ref yl, .int (nI tz)])), (yz, .inl (cI, 3, .inl (zf ko kn kr)))]) (st' := [.int (nI kn), .int (nI j)]) rfl rfl ?_
        refine k_icmp_lt (tgt := 24) (xi := ((j : Nat) : Int)) (yi := ((kn : Nat) : Int)) X (nI_toInt (by omega)) (nI_toInt (by omega)) dX5_at_19 (by decide) (fun c_19 => ?_) (fun c_19 => ?_)
        · refine k_iload_n X dX5_at_24 rfl 1 rfl ?_
          refine k_iconst (v := 2) X dX5_at_25 (by decide) ?_
          refine k_icmp_ne (tgt := 38) (xi := (1 : Int)) (yi := (2 : Int)) X (by decide) (by decide) dX5_at_26 (by decide) (fun c_26 => ?_) (fun c_26 => ?_)
          · refine k_aload_n X dX5_at_38 rfl 0 rfl ?_
            refine k_get (v := .ref yb) X 2 5 0 rfl rfl (by decide) fl_X5_7 in_X5 rfl rfl dX5_at_39 ?_
            refine k_sipush (v := 2000) X dX5_at_42 (by decide) ?_
            refine k_iload_n X dX5_at_45 rfl 1 rfl ?_
            refine k_iconst (v := 3) X dX5_at_46 (by decide) ?_
            refine k_icmp_ne (tgt := 54) (xi := (1 : Int)) (yi := (3 : Int)) X (by decide) (by decide) dX5_at_47 (by decide) (fun c_47 => ?_) (fun c_47 => ?_)
            · refine k_iload_n X dX5_at_54 rfl 1 rfl ?_
              refine k_imul X dX5_at_55 ?_
              refine k_as (y := 2000) (by decide) ?_
              refine k_iload_n X dX5_at_56 rfl 2 rfl ?_
              refine k_iadd X dX5_at_57 ?_
              refine k_as (y := nI (2000 + j)) (nI_add 2000 j) ?_
              refine k_bald (v := B (2000 + j)) X 0 rfl (vp_in_nI (n := 2000 + j) (by omega) (by omega)) (by rw [nI_clamp (n := 2000 + j) (by omega)]) dX5_at_58 ?_
              refine k_sipush (v := 255) X dX5_at_59 (by decide) ?_
              refine k_iand X dX5_at_62 ?_
              exact k_iret (u := [(m0, .inr (5, [.ref yb, .ref yz, .ref ye, .int (nI dz), .int (nI sz), .int (nI wz), .int (nI bz), .int (nI uS), .int (nI uW), .ref ys, .ref yg, .int (nI mr), .int (nI ml), .int (nI mw), .int (nI ma), .ref yf, .ref yh, .ref yw, .ref yn, .ref yt, .ref yl, .int (nI tz)])), (yb, .inl (cB, 6000, .inl B)), (ye, .inl (cB, 8100, .inl E)), (yz, .inl (cI, 3, .inl (zf ko kn kr)))]) X hr [2, 0, 1, 3] (by decide) rfl rfl (⟨rfl, rfl⟩) (by (try dsimp only); omega) (by (try dsimp only); omega) dX5_at_63
            · exact absurd c_47 (by decide)
          · exact absurd c_26 (by decide)
        · exact absurd c_19 (by omega)
set_option maxHeartbeats 4000000 in
set_option maxRecDepth 100000 in
theorem m_at_1f (l : Launch) (D : va_G) (cI cB : ClassId) (m0 : Nat) (yb : Nat) (yz : Nat) (ye : Nat) (ys : Nat) (yg : Nat) (yf : Nat) (yh : Nat) (yw : Nat) (yn : Nat) (yt : Nat) (yl : Nat) (dz : Nat) (sz : Nat) (wz : Nat) (bz : Nat) (uS : Nat) (uW : Nat) (mr : Nat) (ml : Nat) (mw : Nat) (ma : Nat) (tz : Nat) (ko : Nat) (kn : Nat) (kr : Nat) (x : Int32) (hk : kn ≤ 2000) (hx : ¬ rIn x kn) : kC l yX5_at cX5_at 3 (some .int) 1 21 (0) (0) D cI cB [.ref m0, .int 1, .int x] [(m0, .inr (5, [.ref yb, .ref yz, .ref ye, .int (nI dz), .int (nI sz), .int (nI wz), .int (nI bz), .int (nI uS), .int (nI uW), .ref ys, .ref yg, .int (nI mr), .int (nI ml), .int (nI mw), .int (nI ma), .ref yf, .ref yh, .ref yw, .ref yn, .ref yt, .ref yl, .int (nI tz)])), (yz, .inl (cI, 3, .inl (zf ko kn kr)))] (fun (vV : Option Value) (uU : va_W) => vV = some (.int (-1)) ∧ uU = [(m0, .inr (5, [.ref yb, .ref yz, .ref ye, .int (nI dz), .int (nI sz), .int (nI wz), .int (nI bz), .int (nI uS), .int (nI uW), .ref ys, .ref yg, .int (nI mr), .int (nI ml), .int (nI mw), .int (nI ma), .ref yf, .ref yh, .ref yw, .ref yn, .ref yt, .ref yl, .int (nI tz)])), (yz, .inl (cI, 3, .inl (zf ko kn kr)))]) := by
  refine k_entry (lv0 := [(0, .ref m0), (1, .int 1), (2, .int x)]) (by decide) (Nat.le_of_ble_eq_true rfl) rfl ?_
  intro zp ze zs zm zb zt zc zA X hr hin
  refine k_iload_n X dX5_at_0 rfl 1 rfl ?_
  refine k_if_lt (tgt := 22) (xi := (1 : Int)) X (by decide) dX5_at_1 (by decide) (fun c_1 => ?_) (fun c_1 => ?_)
  · exact absurd c_1 (by decide)
  · refine k_iload_n X dX5_at_4 rfl 1 rfl ?_
    refine k_iconst (v := 3) X dX5_at_5 (by decide) ?_
    refine k_icmp_gt (tgt := 22) (xi := (1 : Int)) (yi := (3 : Int)) X (by decide) (by decide) dX5_at_6 (by decide) (fun c_6 => ?_) (fun c_6 => ?_)
    · exact absurd c_6 (by decide)
    · refine k_iload_n X dX5_at_9 rfl 2 rfl ?_
      refine k_if_lt (tgt := 22) (xi := x.toInt) X (rfl) dX5_at_10 (by decide) (fun c_10 => ?_) (fun c_10 => ?_)
      · refine k_iconst (v := -1) X dX5_at_22 (by decide) ?_
        exact k_iret (u := [(m0, .inr (5, [.ref yb, .ref yz, .ref ye, .int (nI dz), .int (nI sz), .int (nI wz), .int (nI bz), .int (nI uS), .int (nI uW), .ref ys, .ref yg, .int (nI mr), .int (nI ml), .int (nI mw), .int (nI ma), .ref yf, .ref yh, .ref yw, .ref yn, .ref yt, .ref yl, .int (nI tz)])), (yz, .inl (cI, 3, .inl (zf ko kn kr)))]) X hr [0, 1] (by decide) rfl rfl (⟨rfl, rfl⟩) (by (try dsimp only); omega) (by (try dsimp only); omega) dX5_at_23
      · refine k_iload_n X dX5_at_13 rfl 2 rfl ?_
        refine k_aload_n X dX5_at_14 rfl 0 rfl ?_
        refine k_iload_n X dX5_at_15 rfl 1 rfl ?_
        refine k_callV (wc := [(m0, .inr (5, [.ref yb, .ref yz, .ref ye, .int (nI dz), .int (nI sz), .int (nI wz), .int (nI bz), .int (nI uS), .int (nI uW), .ref ys, .ref yg, .int (nI mr), .int (nI ml), .int (nI mw), .int (nI ma), .ref yf, .ref yh, .ref yw, .ref yn, .ref yt, .ref yl, .int (nI tz)])), (yz, .inl (cI, 3, .inl (zf ko kn kr)))]) (wr := []) (As := [.int 1]) (n := 1) (st := [.int x]) (q0 := 0) X (m_size_1 l D cI cB m0 yb yz ye ys yg yf yh yw yn yt yl dz sz wz bz uS uW mr ml mw ma tz ko kn kr ) rfl rfl ml_X5_178 im_X5_size se_X5_size ini_X5 co_X5_size (by decide +kernel) rfl ⟨Nat.le_of_ble_eq_true rfl, Nat.le_of_ble_eq_true rfl⟩ (⟨by (try dsimp only); omega, by (try dsimp only); omega⟩) (Nat.le_of_ble_eq_true rfl) [0, 1] [] rfl rfl rfl (by decide) (by decide) (by decide) rfl dX5_at_16 (fun v_16 u_16 hu_16 => ?_)
        obtain ⟨rfl, rfl⟩ := hu_16
        refine k_to (ws' := [(m0, .inr (5, [.ref yb, .ref yz, .ref ye, .int (nI dz), .int (nI sz), .int (nI wz), .int (nI bz), .int (nI uS), .int (nI uW), .ref ys, .ref yg, .int (nI mr), .int (nI ml), .int (nI mw), .int (nI ma), .ref yf, .ref yh, .ref yw, .ref yn, .ref yt, .ref yl, .int (nI tz)])), (yz, .inl (cI, 3, .inl (zf ko kn kr)))]) (st' := [.int (nI kn), .int x]) rfl rfl ?_
        refine k_icmp_lt (tgt := 24) (xi := x.toInt) (yi := ((kn : Nat) : Int)) X (rfl) (nI_toInt (by omega)) dX5_at_19 (by decide) (fun c_19 => ?_) (fun c_19 => ?_)
        · exact absurd c_19 (by omega)
        · refine k_iconst (v := -1) X dX5_at_22 (by decide) ?_
          exact k_iret (u := [(m0, .inr (5, [.ref yb, .ref yz, .ref ye, .int (nI dz), .int (nI sz), .int (nI wz), .int (nI bz), .int (nI uS), .int (nI uW), .ref ys, .ref yg, .int (nI mr), .int (nI ml), .int (nI mw), .int (nI ma), .ref yf, .ref yh, .ref yw, .ref yn, .ref yt, .ref yl, .int (nI tz)])), (yz, .inl (cI, 3, .inl (zf ko kn kr)))]) X hr [0, 1] (by decide) rfl rfl (⟨rfl, rfl⟩) (by (try dsimp only); omega) (by (try dsimp only); omega) dX5_at_23
set_option maxHeartbeats 4000000 in
set_option maxRecDepth 100000 in
theorem m_at_2 (l : Launch) (D : va_G) (cI cB : ClassId) (m0 : Nat) (yb : Nat) (yz : Nat) (ye : Nat) (ys : Nat) (yg : Nat) (yf : Nat) (yh : Nat) (yw : Nat) (yn : Nat) (yt : Nat) (yl : Nat) (dz : Nat) (sz : Nat) (wz : Nat) (bz : Nat) (uS : Nat) (uW : Nat) (mr : Nat) (ml : Nat) (mw : Nat) (ma : Nat) (tz : Nat) (B : Nat → Int32) (E : Nat → Int32) (ko : Nat) (kn : Nat) (kr : Nat) (j : Nat) (hj : j < dz) (hk : dz ≤ 8000) : kC l yX5_at cX5_at 3 (some .int) 1 21 (0) (0) D cI cB [.ref m0, .int 2, .int (nI j)] [(m0, .inr (5, [.ref yb, .ref yz, .ref ye, .int (nI dz), .int (nI sz), .int (nI wz), .int (nI bz), .int (nI uS), .int (nI uW), .ref ys, .ref yg, .int (nI mr), .int (nI ml), .int (nI mw), .int (nI ma), .ref yf, .ref yh, .ref yw, .ref yn, .ref yt, .ref yl, .int (nI tz)])), (yb, .inl (cB, 6000, .inl B)), (ye, .inl (cB, 8100, .inl E)), (yz, .inl (cI, 3, .inl (zf ko kn kr)))] (fun (vV : Option Value) (uU : va_W) => vV = some (.int (E j &&& 255)) ∧ uU = [(m0, .inr (5, [.ref yb, .ref yz, .ref ye, .int (nI dz), .int (nI sz), .int (nI wz), .int (nI bz), .int (nI uS), .int (nI uW), .ref ys, .ref yg, .int (nI mr), .int (nI ml), .int (nI mw), .int (nI ma), .ref yf, .ref yh, .ref yw, .ref yn, .ref yt, .ref yl, .int (nI tz)])), (yb, .inl (cB, 6000, .inl B)), (ye, .inl (cB, 8100, .inl E)), (yz, .inl (cI, 3, .inl (zf ko kn kr)))]) := by
  refine k_entry (lv0 := [(0, .ref m0), (1, .int 2), (2, .int (nI j))]) (by decide) (Nat.le_of_ble_eq_true rfl) rfl ?_
  intro zp ze zs zm zb zt zc zA X hr hin
  refine k_iload_n X dX5_at_0 rfl 1 rfl ?_
  refine k_if_lt (tgt := 22) (xi := (2 : Int)) X (by decide) dX5_at_1 (by decide) (fun c_1 => ?_) (fun c_1 => ?_)
  · exact absurd c_1 (by decide)
  · refine k_iload_n X dX5_at_4 rfl 1 rfl ?_
    refine k_iconst (v := 3) X dX5_at_5 (by decide) ?_
    refine k_icmp_gt (tgt := 22) (xi := (2 : Int)) (yi := (3 : Int)) X (by decide) (by decide) dX5_at_6 (by decide) (fun c_6 => ?_) (fun c_6 => ?_)
    · exact absurd c_6 (by decide)
    · refine k_iload_n X dX5_at_9 rfl 2 rfl ?_
      refine k_if_lt (tgt := 22) (xi := ((j : Nat) : Int)) X (nI_toInt (by omega)) dX5_at_10 (by decide) (fun c_10 => ?_) (fun c_10 => ?_)
      · exact absurd c_10 (by omega)
      · refine k_iload_n X dX5_at_13 rfl 2 rfl ?_
        refine k_aload_n X dX5_at_14 rfl 0 rfl ?_
        refine k_iload_n X dX5_at_15 rfl 1 rfl ?_
        refine k_callV (wc := [(m0, .inr (5, [.ref yb, .ref yz, .ref ye, .int (nI dz), .int (nI sz), .int (nI wz), .int (nI bz), .int (nI uS), .int (nI uW), .ref ys, .ref yg, .int (nI mr), .int (nI ml), .int (nI mw), .int (nI ma), .ref yf, .ref yh, .ref yw, .ref yn, .ref yt, .ref yl, .int (nI tz)])), (yz, .inl (cI, 3, .inl (zf ko kn kr)))]) (wr := [(yb, .inl (cB, 6000, .inl B)), (ye, .inl (cB, 8100, .inl E))]) (As := [.int 2]) (n := 1) (st := [.int (nI j)]) (q0 := 0) X (m_size_2 l D cI cB m0 yb yz ye ys yg yf yh yw yn yt yl dz sz wz bz uS uW mr ml mw ma tz ko kn kr ) rfl rfl ml_X5_178 im_X5_size se_X5_size ini_X5 co_X5_size (by decide +kernel) rfl ⟨Nat.le_of_ble_eq_true rfl, Nat.le_of_ble_eq_true rfl⟩ (⟨by (try dsimp only); omega, by (try dsimp only); omega⟩) (Nat.le_of_ble_eq_true rfl) [0, 3] [1, 2] rfl rfl rfl (by decide) (by decide) (by decide) rfl dX5_at_16 (fun v_16 u_16 hu_16 => ?_)
        obtain ⟨rfl, rfl⟩ := hu_16
        refine k_to (ws' := [(yb, .inl (cB, 6000, .inl B)), (ye, .inl (cB, 8100, .inl E)), (m0, .inr (5, [.ref yb, .ref yz, .ref ye, .int (nI dz), .int (nI sz), .int (nI wz), .int (nI bz), .int (nI uS), .int (nI uW), .ref ys, .ref yg, .int (nI mr), .int (nI ml), .int (nI mw), .int (nI ma), .ref yf, .ref yh, .ref yw, .ref yn, .ref yt, .ref yl, .int (nI tz)])), (yz, .inl (cI, 3, .inl (zf ko kn kr)))]) (st' := [.int (nI dz), .int (nI j)]) rfl rfl ?_
        refine k_icmp_lt (tgt := 24) (xi := ((j : Nat) : Int)) (yi := ((dz : Nat) : Int)) X (nI_toInt (by omega)) (nI_toInt (by omega)) dX5_at_19 (by decide) (fun c_19 => ?_) (fun c_19 => ?_)
        · refine k_iload_n X dX5_at_24 rfl 1 rfl ?_
          refine k_iconst (v := 2) X dX5_at_25 (by decide) ?_
          refine k_icmp_ne (tgt := 38) (xi := (2 : Int)) (yi := (2 : Int)) X (by decide) (by decide) dX5_at_26 (by decide) (fun c_26 => ?_) (fun c_26 => ?_)
          · exact absurd c_26 (by decide)
          · refine k_aload_n X dX5_at_29 rfl 0 rfl ?_
            refine k_get (v := .ref ye) X 2 5 2 rfl rfl (by decide) fl_X5_17 in_X5 rfl rfl dX5_at_30 ?_
            refine k_iload_n X dX5_at_33 rfl 2 rfl ?_
            refine k_bald (v := E j) X 1 rfl (vp_in_nI (n := j) (by omega) (by omega)) (by rw [nI_clamp (n := j) (by omega)]) dX5_at_34 ?_
            refine k_goto (tgt := 59) X dX5_at_35 (by decide) ?_
            refine k_sipush (v := 255) X dX5_at_59 (by decide) ?_
            refine k_iand X dX5_at_62 ?_
            exact k_iret (u := [(m0, .inr (5, [.ref yb, .ref yz, .ref ye, .int (nI dz), .int (nI sz), .int (nI wz), .int (nI bz), .int (nI uS), .int (nI uW), .ref ys, .ref yg, .int (nI mr), .int (nI ml), .int (nI mw), .int (nI ma), .ref yf, .ref yh, .ref yw, .ref yn, .ref yt, .ref yl, .int (nI tz)])), (yb, .inl (cB, 6000, .inl B)), (ye, .inl (cB, 8100, .inl E)), (yz, .inl (cI, 3, .inl (zf ko kn kr)))]) X hr [2, 0, 1, 3] (by decide) rfl rfl (⟨rfl, rfl⟩) (by (try dsimp only); omega) (by (try dsimp only); omega) dX5_at_63
        · exact absurd c_19 (by omega)
set_option maxHeartbeats 4000000 in
set_option maxRecDepth 100000 in
theorem m_at_2f (l : Launch) (D : va_G) (cI cB : ClassId) (m0 : Nat) (yb : Nat) (yz : Nat) (ye : Nat) (ys : Nat) (yg : Nat) (yf : Nat) (yh : Nat) (yw : Nat) (yn : Nat) (yt : Nat) (yl : Nat) (dz : Nat) (sz : Nat) (wz : Nat) (bz : Nat) (uS : Nat) (uW : Nat) (mr : Nat) (ml : Nat) (mw : Nat) (ma : Nat) (tz : Nat) (ko : Nat) (kn : Nat) (kr : Nat) (x : Int32) (hk : dz ≤ 8000) (hx : ¬ rIn x dz) : kC l yX5_at cX5_at 3 (some .int) 1 21 (0) (0) D cI cB [.ref m0, .int 2, .int x] [(m0, .inr (5, [.ref yb, .ref yz, .ref ye, .int (nI dz), .int (nI sz), .int (nI wz), .int (nI bz), .int (nI uS), .int (nI uW), .ref ys, .ref yg, .int (nI mr), .int (nI ml), .int (nI mw), .int (nI ma), .ref yf, .ref yh, .ref yw, .ref yn, .ref yt, .ref yl, .int (nI tz)])), (yz, .inl (cI, 3, .inl (zf ko kn kr)))] (fun (vV : Option Value) (uU : va_W) => vV = some (.int (-1)) ∧ uU = [(m0, .inr (5, [.ref yb, .ref yz, .ref ye, .int (nI dz), .int (nI sz), .int (nI wz), .int (nI bz), .int (nI uS), .int (nI uW), .ref ys, .ref yg, .int (nI mr), .int (nI ml), .int (nI mw), .int (nI ma), .ref yf, .ref yh, .ref yw, .ref yn, .ref yt, .ref yl, .int (nI tz)])), (yz, .inl (cI, 3, .inl (zf ko kn kr)))]) := by
  refine k_entry (lv0 := [(0, .ref m0), (1, .int 2), (2, .int x)]) (by decide) (Nat.le_of_ble_eq_true rfl) rfl ?_
  intro zp ze zs zm zb zt zc zA X hr hin
  refine k_iload_n X dX5_at_0 rfl 1 rfl ?_
  refine k_if_lt (tgt := 22) (xi := (2 : Int)) X (by decide) dX5_at_1 (by decide) (fun c_1 => ?_) (fun c_1 => ?_)
  · exact absurd c_1 (by decide)
  · refine k_iload_n X dX5_at_4 rfl 1 rfl ?_
    refine k_iconst (v := 3) X dX5_at_5 (by decide) ?_
    refine k_icmp_gt (tgt := 22) (xi := (2 : Int)) (yi := (3 : Int)) X (by decide) (by decide) dX5_at_6 (by decide) (fun c_6 => ?_) (fun c_6 => ?_)
    · exact absurd c_6 (by decide)
    · refine k_iload_n X dX5_at_9 rfl 2 rfl ?_
      refine k_if_lt (tgt := 22) (xi := x.toInt) X (rfl) dX5_at_10 (by decide) (fun c_10 => ?_) (fun c_10 => ?_)
      · refine k_iconst (v := -1) X dX5_at_22 (by decide) ?_
        exact k_iret (u := [(m0, .inr (5, [.ref yb, .ref yz, .ref ye, .int (nI dz), .int (nI sz), .int (nI wz), .int (nI bz), .int (nI uS), .int (nI uW), .ref ys, .ref yg, .int (nI mr), .int (nI ml), .int (nI mw), .int (nI ma), .ref yf, .ref yh, .ref yw, .ref yn, .ref yt, .ref yl, .int (nI tz)])), (yz, .inl (cI, 3, .inl (zf ko kn kr)))]) X hr [0, 1] (by decide) rfl rfl (⟨rfl, rfl⟩) (by (try dsimp only); omega) (by (try dsimp only); omega) dX5_at_23
      · refine k_iload_n X dX5_at_13 rfl 2 rfl ?_
        refine k_aload_n X dX5_at_14 rfl 0 rfl ?_
        refine k_iload_n X dX5_at_15 rfl 1 rfl ?_
        refine k_callV (wc := [(m0, .inr (5, [.ref yb, .ref yz, .ref ye, .int (nI dz), .int (nI sz), .int (nI wz), .int (nI bz), .int (nI uS), .int (nI uW), .ref ys, .ref yg, .int (nI mr), .int (nI ml), .int (nI mw), .int (nI ma), .ref yf, .ref yh, .ref yw, .ref yn, .ref yt, .ref yl, .int (nI tz)])), (yz, .inl (cI, 3, .inl (zf ko kn kr)))]) (wr := []) (As := [.int 2]) (n := 1) (st := [.int x]) (q0 := 0) X (m_size_2 l D cI cB m0 yb yz ye ys yg yf yh yw yn yt yl dz sz wz bz uS uW mr ml mw ma tz ko kn kr ) rfl rfl ml_X5_178 im_X5_size se_X5_size ini_X5 co_X5_size (by decide +kernel) rfl ⟨Nat.le_of_ble_eq_true rfl, Nat.le_of_ble_eq_true rfl⟩ (⟨by (try dsimp only); omega, by (try dsimp only); omega⟩) (Nat.le_of_ble_eq_true rfl) [0, 1] [] rfl rfl rfl (by decide) (by decide) (by decide) rfl dX5_at_16 (fun v_16 u_16 hu_16 => ?_)
        obtain ⟨rfl, rfl⟩ := hu_16
        refine k_to (ws' := [(m0, .inr (5, [.ref yb, .ref yz, .ref ye, .int (nI dz), .int (nI sz), .int (nI wz), .int (nI bz), .int (nI uS), .int (nI uW), .ref ys, .ref yg, .int (nI mr), .int (nI ml), .int (nI mw), .int (nI ma), .ref yf, .ref yh, .ref yw, .ref yn, .ref yt, .ref yl, .int (nI tz)])), (yz, .inl (cI, 3, .inl (zf ko kn kr)))]) (st' := [.int (nI dz), .int x]) rfl rfl ?_
        refine k_icmp_lt (tgt := 24) (xi := x.toInt) (yi := ((dz : Nat) : Int)) X (rfl) (nI_toInt (by omega)) dX5_at_19 (by decide) (fun c_19 => ?_) (fun c_19 => ?_)
        · exact absurd c_19 (by omega)
        · refine k_iconst (v := -1) X dX5_at_22 (by decide) ?_
          exact k_iret (u := [(m0, .inr (5, [.ref yb, .ref yz, .ref ye, .int (nI dz), .int (nI sz), .int (nI wz), .int (nI bz), .int (nI uS), .int (nI uW), .ref ys, .ref yg, .int (nI mr), .int (nI ml), .int (nI mw), .int (nI ma), .ref yf, .ref yh, .ref yw, .ref yn, .ref yt, .ref yl, .int (nI tz)])), (yz, .inl (cI, 3, .inl (zf ko kn kr)))]) X hr [0, 1] (by decide) rfl rfl (⟨rfl, rfl⟩) (by (try dsimp only); omega) (by (try dsimp only); omega) dX5_at_23
set_option maxHeartbeats 4000000 in
set_option maxRecDepth 100000 in
theorem m_at_3 (l : Launch) (D : va_G) (cI cB : ClassId) (m0 : Nat) (yb : Nat) (yz : Nat) (ye : Nat) (ys : Nat) (yg : Nat) (yf : Nat) (yh : Nat) (yw : Nat) (yn : Nat) (yt : Nat) (yl : Nat) (dz : Nat) (sz : Nat) (wz : Nat) (bz : Nat) (uS : Nat) (uW : Nat) (mr : Nat) (ml : Nat) (mw : Nat) (ma : Nat) (tz : Nat) (B : Nat → Int32) (E : Nat → Int32) (ko : Nat) (kn : Nat) (kr : Nat) (j : Nat) (hj : j < kr) (hk : kr ≤ 2000) : kC l yX5_at cX5_at 3 (some .int) 1 21 (0) (0) D cI cB [.ref m0, .int 3, .int (nI j)] [(m0, .inr (5, [.ref yb, .ref yz, .ref ye, .int (nI dz), .int (nI sz), .int (nI wz), .int (nI bz), .int (nI uS), .int (nI uW), .ref ys, .ref yg, .int (nI mr), .int (nI ml), .int (nI mw), .int (nI ma), .ref yf, .ref yh, .ref yw, .ref yn, .ref yt, .ref yl, .int (nI tz)])), (yb, .inl (cB, 6000, .inl B)), (ye, .inl (cB, 8100, .inl E)), (yz, .inl (cI, 3, .inl (zf ko kn kr)))] (fun (vV : Option Value) (uU : va_W) => vV = some (.int (B (4000 + j) &&& 255)) ∧ uU = [(m0, .inr (5, [.ref yb, .ref yz, .ref ye, .int (nI dz), .int (nI sz), .int (nI wz), .int (nI bz), .int (nI uS), .int (nI uW), .ref ys, .ref yg, .int (nI mr), .int (nI ml), .int (nI mw), .int (nI ma), .ref yf, .ref yh, .ref yw, .ref yn, .ref yt, .ref yl, .int (nI tz)])), (yb, .inl (cB, 6000, .inl B)), (ye, .inl (cB, 8100, .inl E)), (yz, .inl (cI, 3, .inl (zf ko kn kr)))]) := by
  refine k_entry (lv0 := [(0, .ref m0), (1, .int 3), (2, .int (nI j))]) (by decide) (Nat.le_of_ble_eq_true rfl) rfl ?_
  intro zp ze zs zm zb zt zc zA X hr hin
  refine k_iload_n X dX5_at_0 rfl 1 rfl ?_
  refine k_if_lt (tgt := 22) (xi := (3 : Int)) X (by decide) dX5_at_1 (by decide) (fun c_1 => ?_) (fun c_1 => ?_)
  · exact absurd c_1 (by decide)
  · refine k_iload_n X dX5_at_4 rfl 1 rfl ?_
    refine k_iconst (v := 3) X dX5_at_5 (by decide) ?_
    refine k_icmp_gt (tgt := 22) (xi := (3 : Int)) (yi := (3 : Int)) X (by decide) (by decide) dX5_at_6 (by decide) (fun c_6 => ?_) (fun c_6 => ?_)
    · exact absurd c_6 (by decide)
    · refine k_iload_n X dX5_at_9 rfl 2 rfl ?_
      refine k_if_lt (tgt := 22) (xi := ((j : Nat) : Int)) X (nI_toInt (by omega)) dX5_at_10 (by decide) (fun c_10 => ?_) (fun c_10 => ?_)
      · exact absurd c_10 (by omega)
      · refine k_iload_n X dX5_at_13 rfl 2 rfl ?_
        refine k_aload_n X dX5_at_14 rfl 0 rfl ?_
        refine k_iload_n X dX5_at_15 rfl 1 rfl ?_
        refine k_callV (wc := [(m0, .inr (5, [.ref yb, .ref yz, .ref ye, .int (nI dz), .int (nI sz), .int (nI wz), .int (nI bz), .int (nI uS), .int (nI uW), .ref ys, .ref yg, .int (nI mr), .int (nI ml), .int (nI mw), .int (nI ma), .ref yf, .ref yh, .ref yw, .ref yn, .ref yt, .ref yl, .int (nI tz)])), (yz, .inl (cI, 3, .inl (zf ko kn kr)))]) (wr := [(yb, .inl (cB, 6000, .inl B)), (ye, .inl (cB, 8100, .inl E))]) (As := [.int 3]) (n := 1) (st := [.int (nI j)]) (q0 := 0) X (m_size_3 l D cI cB m0 yb yz ye ys yg yf yh yw yn yt yl dz sz wz bz uS uW mr ml mw ma tz ko kn kr ) rfl rfl ml_X5_178 im_X5_size se_X5_size ini_X5 co_X5_size (by decide +kernel) rfl ⟨Nat.le_of_ble_eq_true rfl, Nat.le_of_ble_eq_true rfl⟩ (⟨by (try dsimp only); omega, by (try dsimp only); omega⟩) (Nat.le_of_ble_eq_true rfl) [0, 3] [1, 2] rfl rfl rfl (by decide) (by decide) (by decide) rfl dX5_at_16 (fun v_16 u_16 hu_16 => ?_)
        obtain ⟨rfl, rfl⟩ := hu_16
        refine k_to (ws' := [(yb, .inl (cB, 6000, .inl B)), (ye, .inl (cB, 8100, .inl E)), (m0, .inr (5, [.ref yb, .ref yz, .ref ye, .int (nI dz), .int (nI sz), .int (nI wz), .int (nI bz), .int (nI uS), .int (nI uW), .ref ys, .ref yg, .int (nI mr), .int (nI ml), .int (nI mw), .int (nI ma), .ref yf, .ref yh, .ref yw, .ref yn, .ref yt, .ref yl, .int (nI tz)])), (yz, .inl (cI, 3, .inl (zf ko kn kr)))]) (st' := [.int (nI kr), .int (nI j)]) rfl rfl ?_
        refine k_icmp_lt (tgt := 24) (xi := ((j : Nat) : Int)) (yi := ((kr : Nat) : Int)) X (nI_toInt (by omega)) (nI_toInt (by omega)) dX5_at_19 (by decide) (fun c_19 => ?_) (fun c_19 => ?_)
        · refine k_iload_n X dX5_at_24 rfl 1 rfl ?_
          refine k_iconst (v := 2) X dX5_at_25 (by decide) ?_
          refine k_icmp_ne (tgt := 38) (xi := (3 : Int)) (yi := (2 : Int)) X (by decide) (by decide) dX5_at_26 (by decide) (fun c_26 => ?_) (fun c_26 => ?_)
          · refine k_aload_n X dX5_at_38 rfl 0 rfl ?_
            refine k_get (v := .ref yb) X 2 5 0 rfl rfl (by decide) fl_X5_7 in_X5 rfl rfl dX5_at_39 ?_
            refine k_sipush (v := 2000) X dX5_at_42 (by decide) ?_
            refine k_iload_n X dX5_at_45 rfl 1 rfl ?_
            refine k_iconst (v := 3) X dX5_at_46 (by decide) ?_
            refine k_icmp_ne (tgt := 54) (xi := (3 : Int)) (yi := (3 : Int)) X (by decide) (by decide) dX5_at_47 (by decide) (fun c_47 => ?_) (fun c_47 => ?_)
            · exact absurd c_47 (by decide)
            · refine k_iconst (v := 2) X dX5_at_50 (by decide) ?_
              refine k_goto (tgt := 55) X dX5_at_51 (by decide) ?_
              refine k_imul X dX5_at_55 ?_
              refine k_as (y := 4000) (by decide) ?_
              refine k_iload_n X dX5_at_56 rfl 2 rfl ?_
              refine k_iadd X dX5_at_57 ?_
              refine k_as (y := nI (4000 + j)) (nI_add 4000 j) ?_
              refine k_bald (v := B (4000 + j)) X 0 rfl (vp_in_nI (n := 4000 + j) (by omega) (by omega)) (by rw [nI_clamp (n := 4000 + j) (by omega)]) dX5_at_58 ?_
              refine k_sipush (v := 255) X dX5_at_59 (by decide) ?_
              refine k_iand X dX5_at_62 ?_
              exact k_iret (u := [(m0, .inr (5, [.ref yb, .ref yz, .ref ye, .int (nI dz), .int (nI sz), .int (nI wz), .int (nI bz), .int (nI uS), .int (nI uW), .ref ys, .ref yg, .int (nI mr), .int (nI ml), .int (nI mw), .int (nI ma), .ref yf, .ref yh, .ref yw, .ref yn, .ref yt, .ref yl, .int (nI tz)])), (yb, .inl (cB, 6000, .inl B)), (ye, .inl (cB, 8100, .inl E)), (yz, .inl (cI, 3, .inl (zf ko kn kr)))]) X hr [2, 0, 1, 3] (by decide) rfl rfl (⟨rfl, rfl⟩) (by (try dsimp only); omega) (by (try dsimp only); omega) dX5_at_63
          · exact absurd c_26 (by decide)
        · exact absurd c_19 (by omega)
set_option maxHeartbeats 4000000 in
set_option maxRecDepth 100000 in
theorem m_at_3f (l : Launch) (D : va_G) (cI cB : ClassId) (m0 : Nat) (yb : Nat) (yz : Nat) (ye : Nat) (ys : Nat) (yg : Nat) (yf : Nat) (yh : Nat) (yw : Nat) (yn : Nat) (yt : Nat) (yl : Nat) (dz : Nat) (sz : Nat) (wz : Nat) (bz : Nat) (uS : Nat) (uW : Nat) (mr : Nat) (ml : Nat) (mw : Nat) (ma : Nat) (tz : Nat) (ko : Nat) (kn : Nat) (kr : Nat) (x : Int32) (hk : kr ≤ 2000) (hx : ¬ rIn x kr) : kC l yX5_at cX5_at 3 (some .int) 1 21 (0) (0) D cI cB [.ref m0, .int 3, .int x] [(m0, .inr (5, [.ref yb, .ref yz, .ref ye, .int (nI dz), .int (nI sz), .int (nI wz), .int (nI bz), .int (nI uS), .int (nI uW), .ref ys, .ref yg, .int (nI mr), .int (nI ml), .int (nI mw), .int (nI ma), .ref yf, .ref yh, .ref yw, .ref yn, .ref yt, .ref yl, .int (nI tz)])), (yz, .inl (cI, 3, .inl (zf ko kn kr)))] (fun (vV : Option Value) (uU : va_W) => vV = some (.int (-1)) ∧ uU = [(m0, .inr (5, [.ref yb, .ref yz, .ref ye, .int (nI dz), .int (nI sz), .int (nI wz), .int (nI bz), .int (nI uS), .int (nI uW), .ref ys, .ref yg, .int (nI mr), .int (nI ml), .int (nI mw), .int (nI ma), .ref yf, .ref yh, .ref yw, .ref yn, .ref yt, .ref yl, .int (nI tz)])), (yz, .inl (cI, 3, .inl (zf ko kn kr)))]) := by
  refine k_entry (lv0 := [(0, .ref m0), (1, .int 3), (2, .int x)]) (by decide) (Nat.le_of_ble_eq_true rfl) rfl ?_
  intro zp ze zs zm zb zt zc zA X hr hin
  refine k_iload_n X dX5_at_0 rfl 1 rfl ?_
  refine k_if_lt (tgt := 22) (xi := (3 : Int)) X (by decide) dX5_at_1 (by decide) (fun c_1 => ?_) (fun c_1 => ?_)
  · exact absurd c_1 (by decide)
  · refine k_iload_n X dX5_at_4 rfl 1 rfl ?_
    refine k_iconst (v := 3) X dX5_at_5 (by decide) ?_
    refine k_icmp_gt (tgt := 22) (xi := (3 : Int)) (yi := (3 : Int)) X (by decide) (by decide) dX5_at_6 (by decide) (fun c_6 => ?_) (fun c_6 => ?_)
    · exact absurd c_6 (by decide)
    · refine k_iload_n X dX5_at_9 rfl 2 rfl ?_
      refine k_if_lt (tgt := 22) (xi := x.toInt) X (rfl) dX5_at_10 (by decide) (fun c_10 => ?_) (fun c_10 => ?_)
      · refine k_iconst (v := -1) X dX5_at_22 (by decide) ?_
        exact k_iret (u := [(m0, .inr (5, [.ref yb, .ref yz, .ref ye, .int (nI dz), .int (nI sz), .int (nI wz), .int (nI bz), .int (nI uS), .int (nI uW), .ref ys, .ref yg, .int (nI mr), .int (nI ml), .int (nI mw), .int (nI ma), .ref yf, .ref yh, .ref yw, .ref yn, .ref yt, .ref yl, .int (nI tz)])), (yz, .inl (cI, 3, .inl (zf ko kn kr)))]) X hr [0, 1] (by decide) rfl rfl (⟨rfl, rfl⟩) (by (try dsimp only); omega) (by (try dsimp only); omega) dX5_at_23
      · refine k_iload_n X dX5_at_13 rfl 2 rfl ?_
        refine k_aload_n X dX5_at_14 rfl 0 rfl ?_
        refine k_iload_n X dX5_at_15 rfl 1 rfl ?_
        refine k_callV (wc := [(m0, .inr (5, [.ref yb, .ref yz, .ref ye, .int (nI dz), .int (nI sz), .int (nI wz), .int (nI bz), .int (nI uS), .int (nI uW), .ref ys, .ref yg, .int (nI mr), .int (nI ml), .int (nI mw), .int (nI ma), .ref yf, .ref yh, .ref yw, .ref yn, .ref yt, .ref yl, .int (nI tz)])), (yz, .inl (cI, 3, .inl (zf ko kn kr)))]) (wr := []) (As := [.int 3]) (n := 1) (st := [.int x]) (q0 := 0) X (m_size_3 l D cI cB m0 yb yz ye ys yg yf yh yw yn yt yl dz sz wz bz uS uW mr ml mw ma tz ko kn kr ) rfl rfl ml_X5_178 im_X5_size se_X5_size ini_X5 co_X5_size (by decide +kernel) rfl ⟨Nat.le_of_ble_eq_true rfl, Nat.le_of_ble_eq_true rfl⟩ (⟨by (try dsimp only); omega, by (try dsimp only); omega⟩) (Nat.le_of_ble_eq_true rfl) [0, 1] [] rfl rfl rfl (by decide) (by decide) (by decide) rfl dX5_at_16 (fun v_16 u_16 hu_16 => ?_)
        obtain ⟨rfl, rfl⟩ := hu_16
        refine k_to (ws' := [(m0, .inr (5, [.ref yb, .ref yz, .ref ye, .int (nI dz), .int (nI sz), .int (nI wz), .int (nI bz), .int (nI uS), .int (nI uW), .ref ys, .ref yg, .int (nI mr), .int (nI ml), .int (nI mw), .int (nI ma), .ref yf, .ref yh, .ref yw, .ref yn, .ref yt, .ref yl, .int (nI tz)])), (yz, .inl (cI, 3, .inl (zf ko kn kr)))]) (st' := [.int (nI kr), .int x]) rfl rfl ?_
        refine k_icmp_lt (tgt := 24) (xi := x.toInt) (yi := ((kr : Nat) : Int)) X (rfl) (nI_toInt (by omega)) dX5_at_19 (by decide) (fun c_19 => ?_) (fun c_19 => ?_)
        · exact absurd c_19 (by omega)
        · refine k_iconst (v := -1) X dX5_at_22 (by decide) ?_
          exact k_iret (u := [(m0, .inr (5, [.ref yb, .ref yz, .ref ye, .int (nI dz), .int (nI sz), .int (nI wz), .int (nI bz), .int (nI uS), .int (nI uW), .ref ys, .ref yg, .int (nI mr), .int (nI ml), .int (nI mw), .int (nI ma), .ref yf, .ref yh, .ref yw, .ref yn, .ref yt, .ref yl, .int (nI tz)])), (yz, .inl (cI, 3, .inl (zf ko kn kr)))]) X hr [0, 1] (by decide) rfl rfl (⟨rfl, rfl⟩) (by (try dsimp only); omega) (by (try dsimp only); omega) dX5_at_23
set_option maxHeartbeats 4000000 in
set_option maxRecDepth 100000 in
theorem m_at_f (l : Launch) (D : va_G) (cI cB : ClassId) (m0 : Nat) (yb : Nat) (yz : Nat) (ye : Nat) (ys : Nat) (yg : Nat) (yf : Nat) (yh : Nat) (yw : Nat) (yn : Nat) (yt : Nat) (yl : Nat) (dz : Nat) (sz : Nat) (wz : Nat) (bz : Nat) (uS : Nat) (uW : Nat) (mr : Nat) (ml : Nat) (mw : Nat) (ma : Nat) (tz : Nat) (wh : Int32) (x : Int32) (hwh : wh.toInt < 0 ∨ 3 < wh.toInt) : kC l yX5_at cX5_at 3 (some .int) 0 0 (0) (0) D cI cB [.ref m0, .int wh, .int x] [(m0, .inr (5, [.ref yb, .ref yz, .ref ye, .int (nI dz), .int (nI sz), .int (nI wz), .int (nI bz), .int (nI uS), .int (nI uW), .ref ys, .ref yg, .int (nI mr), .int (nI ml), .int (nI mw), .int (nI ma), .ref yf, .ref yh, .ref yw, .ref yn, .ref yt, .ref yl, .int (nI tz)]))] (fun (vV : Option Value) (uU : va_W) => vV = some (.int (-1)) ∧ uU = [(m0, .inr (5, [.ref yb, .ref yz, .ref ye, .int (nI dz), .int (nI sz), .int (nI wz), .int (nI bz), .int (nI uS), .int (nI uW), .ref ys, .ref yg, .int (nI mr), .int (nI ml), .int (nI mw), .int (nI ma), .ref yf, .ref yh, .ref yw, .ref yn, .ref yt, .ref yl, .int (nI tz)]))]) := by
  refine k_entry (lv0 := [(0, .ref m0), (1, .int wh), (2, .int x)]) (by decide) (Nat.le_of_ble_eq_true rfl) rfl ?_
  intro zp ze zs zm zb zt zc zA X hr hin
  refine k_iload_n X dX5_at_0 rfl 1 rfl ?_
  refine k_if_lt (tgt := 22) (xi := wh.toInt) X (rfl) dX5_at_1 (by decide) (fun c_1 => ?_) (fun c_1 => ?_)
  · refine k_iconst (v := -1) X dX5_at_22 (by decide) ?_
    exact k_iret (u := [(m0, .inr (5, [.ref yb, .ref yz, .ref ye, .int (nI dz), .int (nI sz), .int (nI wz), .int (nI bz), .int (nI uS), .int (nI uW), .ref ys, .ref yg, .int (nI mr), .int (nI ml), .int (nI mw), .int (nI ma), .ref yf, .ref yh, .ref yw, .ref yn, .ref yt, .ref yl, .int (nI tz)]))]) X hr [0] (by decide) rfl rfl (⟨rfl, rfl⟩) (by (try dsimp only); omega) (by (try dsimp only); omega) dX5_at_23
  · refine k_iload_n X dX5_at_4 rfl 1 rfl ?_
    refine k_iconst (v := 3) X dX5_at_5 (by decide) ?_
    refine k_icmp_gt (tgt := 22) (xi := wh.toInt) (yi := (3 : Int)) X (rfl) (by decide) dX5_at_6 (by decide) (fun c_6 => ?_) (fun c_6 => ?_)
    · refine k_iconst (v := -1) X dX5_at_22 (by decide) ?_
      exact k_iret (u := [(m0, .inr (5, [.ref yb, .ref yz, .ref ye, .int (nI dz), .int (nI sz), .int (nI wz), .int (nI bz), .int (nI uS), .int (nI uW), .ref ys, .ref yg, .int (nI mr), .int (nI ml), .int (nI mw), .int (nI ma), .ref yf, .ref yh, .ref yw, .ref yn, .ref yt, .ref yl, .int (nI tz)]))]) X hr [0] (by decide) rfl rfl (⟨rfl, rfl⟩) (by (try dsimp only); omega) (by (try dsimp only); omega) dX5_at_23
    · exact absurd c_6 (by omega)
set_option maxHeartbeats 4000000 in
set_option maxRecDepth 100000 in
theorem m_change (l : Launch) (D : va_G) (cI cB : ClassId) (m0 : Nat) (yb : Nat) (yz : Nat) (ye : Nat) (ys : Nat) (yg : Nat) (yf : Nat) (yh : Nat) (yw : Nat) (yn : Nat) (yt : Nat) (yl : Nat) (dz : Nat) (sz : Nat) (wz : Nat) (bz : Nat) (uS : Nat) (uW : Nat) (mr : Nat) (ml : Nat) (mw : Nat) (ma : Nat) (tz : Nat) (E : Nat → Int32) (x : Int32) (b : Int32) (hk : dz ≤ 8000) : kC l yX5_change cX5_change 3 (some .boolean) 0 0 (0) (0) D cI cB [.ref m0, .int x, .int b] [(m0, .inr (5, [.ref yb, .ref yz, .ref ye, .int (nI dz), .int (nI sz), .int (nI wz), .int (nI bz), .int (nI uS), .int (nI uW), .ref ys, .ref yg, .int (nI mr), .int (nI ml), .int (nI mw), .int (nI ma), .ref yf, .ref yh, .ref yw, .ref yn, .ref yt, .ref yl, .int (nI tz)])), (ye, .inl (cB, 8100, .inl E))] (fun (vV : Option Value) (uU : va_W) => vV = some (.int (b2i (decide (rIn x dz ∧ rByte b)))) ∧ uU = [(m0, .inr (5, [.ref yb, .ref yz, .ref ye, .int (nI dz), .int (nI sz), .int (nI wz), .int (nI bz), .int (nI uS), .int (nI uW), .ref ys, .ref yg, .int (nI mr), .int (nI ml), .int (nI mw), .int (nI ma), .ref yf, .ref yh, .ref yw, .ref yn, .ref yt, .ref yl, .int (nI tz)])), (ye, .inl (cB, 8100, .inl (if rIn x dz ∧ rByte b then upd E x.toNatClampNeg b.toInt8.toInt32 else E)))]) := by
  refine k_entry (lv0 := [(0, .ref m0), (1, .int x), (2, .int b)]) (by decide) (Nat.le_of_ble_eq_true rfl) rfl ?_
  intro zp ze zs zm zb zt zc zA X hr hin
  refine k_iload_n X dX5_change_0 rfl 1 rfl ?_
  refine k_if_lt (tgt := 23) (xi := x.toInt) X (rfl) dX5_change_1 (by decide) (fun c_1 => ?_) (fun c_1 => ?_)
  · refine k_iconst (v := 0) X dX5_change_23 (by decide) ?_
    exact k_zret (u := [(m0, .inr (5, [.ref yb, .ref yz, .ref ye, .int (nI dz), .int (nI sz), .int (nI wz), .int (nI bz), .int (nI uS), .int (nI uW), .ref ys, .ref yg, .int (nI mr), .int (nI ml), .int (nI mw), .int (nI ma), .ref yf, .ref yh, .ref yw, .ref yn, .ref yt, .ref yl, .int (nI tz)])), (ye, .inl (cB, 8100, .inl E))]) X (by first | rfl | exact b2i_nar _ | decide) hr [0, 1] (by decide) rfl rfl (⟨by rw [b2i_f (by omega)], by rw [if_neg (by omega)]⟩) (by (try dsimp only); omega) (by (try dsimp only); omega) dX5_change_24
  · refine k_iload_n X dX5_change_4 rfl 1 rfl ?_
    refine k_aload_n X dX5_change_5 rfl 0 rfl ?_
    refine k_get (v := .int (nI dz)) X 0 5 3 rfl rfl (by decide) fl_X5_157 in_X5 rfl rfl dX5_change_6 ?_
    refine k_icmp_ge (tgt := 23) (xi := x.toInt) (yi := ((dz : Nat) : Int)) X (rfl) (nI_toInt (by omega)) dX5_change_9 (by decide) (fun c_9 => ?_) (fun c_9 => ?_)
    · refine k_iconst (v := 0) X dX5_change_23 (by decide) ?_
      exact k_zret (u := [(m0, .inr (5, [.ref yb, .ref yz, .ref ye, .int (nI dz), .int (nI sz), .int (nI wz), .int (nI bz), .int (nI uS), .int (nI uW), .ref ys, .ref yg, .int (nI mr), .int (nI ml), .int (nI mw), .int (nI ma), .ref yf, .ref yh, .ref yw, .ref yn, .ref yt, .ref yl, .int (nI tz)])), (ye, .inl (cB, 8100, .inl E))]) X (by first | rfl | exact b2i_nar _ | decide) hr [0, 1] (by decide) rfl rfl (⟨by rw [b2i_f (by omega)], by rw [if_neg (by omega)]⟩) (by (try dsimp only); omega) (by (try dsimp only); omega) dX5_change_24
    · refine k_iload_n X dX5_change_12 rfl 2 rfl ?_
      refine k_if_lt (tgt := 23) (xi := b.toInt) X (rfl) dX5_change_13 (by decide) (fun c_13 => ?_) (fun c_13 => ?_)
      · refine k_iconst (v := 0) X dX5_change_23 (by decide) ?_
        exact k_zret (u := [(m0, .inr (5, [.ref yb, .ref yz, .ref ye, .int (nI dz), .int (nI sz), .int (nI wz), .int (nI bz), .int (nI uS), .int (nI uW), .ref ys, .ref yg, .int (nI mr), .int (nI ml), .int (nI mw), .int (nI ma), .ref yf, .ref yh, .ref yw, .ref yn, .ref yt, .ref yl, .int (nI tz)])), (ye, .inl (cB, 8100, .inl E))]) X (by first | rfl | exact b2i_nar _ | decide) hr [0, 1] (by decide) rfl rfl (⟨by rw [b2i_f (by omega)], by rw [if_neg (by omega)]⟩) (by (try dsimp only); omega) (by (try dsimp only); omega) dX5_change_24
      · refine k_iload_n X dX5_change_16 rfl 2 rfl ?_
        refine k_sipush (v := 255) X dX5_change_17 (by decide) ?_
        refine k_icmp_le (tgt := 25) (xi := b.toInt) (yi := (255 : Int)) X (rfl) (by decide) dX5_change_20 (by decide) (fun c_20 => ?_) (fun c_20 => ?_)
        · refine k_aload_n X dX5_change_25 rfl 0 rfl ?_
          refine k_get (v := .ref ye) X 0 5 2 rfl rfl (by decide) fl_X5_17 in_X5 rfl rfl dX5_change_26 ?_
          refine k_iload_n X dX5_change_29 rfl 1 rfl ?_
          have hxN := i_of (x := x) (n := dz) (by omega) (by omega)
          refine k_iload_n X dX5_change_30 rfl 2 rfl ?_
          refine k_i2b (v := b.toInt8.toInt32) X dX5_change_31 rfl ?_
          refine k_bast (f' := upd E x.toNatClampNeg (vp_nar .byte b.toInt8.toInt32)) (ws' := [(m0, .inr (5, [.ref yb, .ref yz, .ref ye, .int (nI dz), .int (nI sz), .int (nI wz), .int (nI bz), .int (nI uS), .int (nI uW), .ref ys, .ref yg, .int (nI mr), .int (nI ml), .int (nI mw), .int (nI ma), .ref yf, .ref yh, .ref yw, .ref yn, .ref yt, .ref yl, .int (nI tz)])), (ye, .inl (cB, 8100, .inl (upd E x.toNatClampNeg (vp_nar .byte b.toInt8.toInt32))))]) X 1 rfl (vp_in_iff.mpr ⟨by omega, by omega⟩) (rfl) rfl dX5_change_32 ?_
          refine k_iconst (v := 1) X dX5_change_33 (by decide) ?_
          exact k_zret (u := [(m0, .inr (5, [.ref yb, .ref yz, .ref ye, .int (nI dz), .int (nI sz), .int (nI wz), .int (nI bz), .int (nI uS), .int (nI uW), .ref ys, .ref yg, .int (nI mr), .int (nI ml), .int (nI mw), .int (nI ma), .ref yf, .ref yh, .ref yw, .ref yn, .ref yt, .ref yl, .int (nI tz)])), (ye, .inl (cB, 8100, .inl (upd E x.toNatClampNeg (vp_nar .byte b.toInt8.toInt32))))]) X (by first | rfl | exact b2i_nar _ | decide) hr [0, 1] (by decide) rfl rfl (⟨by rw [b2i_t (by omega)], by rw [if_pos (by omega), pk_vb]⟩) (by (try dsimp only); omega) (by (try dsimp only); omega) dX5_change_34
        · refine k_iconst (v := 0) X dX5_change_23 (by decide) ?_
          exact k_zret (u := [(m0, .inr (5, [.ref yb, .ref yz, .ref ye, .int (nI dz), .int (nI sz), .int (nI wz), .int (nI bz), .int (nI uS), .int (nI uW), .ref ys, .ref yg, .int (nI mr), .int (nI ml), .int (nI mw), .int (nI ma), .ref yf, .ref yh, .ref yw, .ref yn, .ref yt, .ref yl, .int (nI tz)])), (ye, .inl (cB, 8100, .inl E))]) X (by first | rfl | exact b2i_nar _ | decide) hr [0, 1] (by decide) rfl rfl (⟨by rw [b2i_f (by omega)], by rw [if_neg (by omega)]⟩) (by (try dsimp only); omega) (by (try dsimp only); omega) dX5_change_24
set_option maxHeartbeats 4000000 in
set_option maxRecDepth 100000 in
theorem m_add (l : Launch) (D : va_G) (cI cB : ClassId) (m0 : Nat) (yb : Nat) (yz : Nat) (ye : Nat) (ys : Nat) (yg : Nat) (yf : Nat) (yh : Nat) (yw : Nat) (yn : Nat) (yt : Nat) (yl : Nat) (dz : Nat) (sz : Nat) (wz : Nat) (bz : Nat) (uS : Nat) (uW : Nat) (mr : Nat) (ml : Nat) (mw : Nat) (ma : Nat) (tz : Nat) (E : Nat → Int32) (b : Int32) (hk : dz < 8100) : kC l yX5_add cX5_add 2 none 0 0 (0) (0) D cI cB [.ref m0, .int b] [(m0, .inr (5, [.ref yb, .ref yz, .ref ye, .int (nI dz), .int (nI sz), .int (nI wz), .int (nI bz), .int (nI uS), .int (nI uW), .ref ys, .ref yg, .int (nI mr), .int (nI ml), .int (nI mw), .int (nI ma), .ref yf, .ref yh, .ref yw, .ref yn, .ref yt, .ref yl, .int (nI tz)])), (ye, .inl (cB, 8100, .inl E))] (fun (vV : Option Value) (uU : va_W) => vV = none ∧ uU = [(m0, .inr (5, [.ref yb, .ref yz, .ref ye, .int (nI (dz + 1)), .int (nI sz), .int (nI wz), .int (nI bz), .int (nI uS), .int (nI uW), .ref ys, .ref yg, .int (nI mr), .int (nI ml), .int (nI mw), .int (nI ma), .ref yf, .ref yh, .ref yw, .ref yn, .ref yt, .ref yl, .int (nI tz)])), (ye, .inl (cB, 8100, .inl (upd E dz b.toInt8.toInt32)))]) := by
  refine k_entry (lv0 := [(0, .ref m0), (1, .int b)]) (by decide) (Nat.le_of_ble_eq_true rfl) rfl ?_
  intro zp ze zs zm zb zt zc zA X hr hin
  refine k_aload_n X dX5_add_0 rfl 0 rfl ?_
  refine k_get (v := .ref ye) X 0 5 2 rfl rfl (by decide) fl_X5_17 in_X5 rfl rfl dX5_add_1 ?_
  refine k_aload_n X dX5_add_4 rfl 0 rfl ?_
  refine k_get (v := .int (nI dz)) X 0 5 3 rfl rfl (by decide) fl_X5_157 in_X5 rfl rfl dX5_add_5 ?_
  refine k_iload_n X dX5_add_8 rfl 1 rfl ?_
  refine k_i2b (v := b.toInt8.toInt32) X dX5_add_9 rfl ?_
  refine k_bast (f' := upd E dz (vp_nar .byte b.toInt8.toInt32)) (ws' := [(m0, .inr (5, [.ref yb, .ref yz, .ref ye, .int (nI dz), .int (nI sz), .int (nI wz), .int (nI bz), .int (nI uS), .int (nI uW), .ref ys, .ref yg, .int (nI mr), .int (nI ml), .int (nI mw), .int (nI ma), .ref yf, .ref yh, .ref yw, .ref yn, .ref yt, .ref yl, .int (nI tz)])), (ye, .inl (cB, 8100, .inl (upd E dz (vp_nar .byte b.toInt8.toInt32))))]) X 1 rfl (vp_in_nI (n := dz) (by omega) (by omega)) (by rw [nI_clamp (n := dz) (by omega)]) rfl dX5_add_10 ?_
  refine k_aload_n X dX5_add_11 rfl 0 rfl ?_
  refine k_dup X dX5_add_12 rfl ?_
  refine k_get (v := .int (nI dz)) X 0 5 3 rfl rfl (by decide) fl_X5_157 in_X5 rfl rfl dX5_add_13 ?_
  refine k_iconst (v := 1) X dX5_add_16 (by decide) ?_
  refine k_iadd X dX5_add_17 ?_
  refine k_as (y := nI (dz + 1)) (nI_1 _) ?_
  refine k_put (v := .int (nI (dz + 1))) (ty := .int) (ws' := [(m0, .inr (5, [.ref yb, .ref yz, .ref ye, .int (nI (dz + 1)), .int (nI sz), .int (nI wz), .int (nI bz), .int (nI uS), .int (nI uW), .ref ys, .ref yg, .int (nI mr), .int (nI ml), .int (nI mw), .int (nI ma), .ref yf, .ref yh, .ref yw, .ref yn, .ref yt, .ref yl, .int (nI tz)])), (ye, .inl (cB, 8100, .inl (upd E dz (vp_nar .byte b.toInt8.toInt32))))]) X 0 5 3 tyX5 tyX5_ok nmX5 rfl rfl (by decide) fl_X5_157 in_X5 rfl rfl (by decide +kernel) rfl rfl (Nat.le_of_ble_eq_true rfl) rfl dX5_add_18 ?_
  exact k_vret (u := [(m0, .inr (5, [.ref yb, .ref yz, .ref ye, .int (nI (dz + 1)), .int (nI sz), .int (nI wz), .int (nI bz), .int (nI uS), .int (nI uW), .ref ys, .ref yg, .int (nI mr), .int (nI ml), .int (nI mw), .int (nI ma), .ref yf, .ref yh, .ref yw, .ref yn, .ref yt, .ref yl, .int (nI tz)])), (ye, .inl (cB, 8100, .inl (upd E dz (vp_nar .byte b.toInt8.toInt32))))]) X hr [0, 1] (by decide) rfl rfl (⟨rfl, by rw [pk_vb]⟩) (by (try dsimp only); omega) (by (try dsimp only); omega) dX5_add_21
set_option maxHeartbeats 4000000 in
set_option maxRecDepth 100000 in
theorem m_push (l : Launch) (D : va_G) (cI cB : ClassId) (m0 : Nat) (yb : Nat) (yz : Nat) (ye : Nat) (ys : Nat) (yg : Nat) (yf : Nat) (yh : Nat) (yw : Nat) (yn : Nat) (yt : Nat) (yl : Nat) (dz : Nat) (sz : Nat) (wz : Nat) (bz : Nat) (uS : Nat) (uW : Nat) (mr : Nat) (ml : Nat) (mw : Nat) (ma : Nat) (tz : Nat) (E : Nat → Int32) (b : Int32) (hk : dz < 6000) (hb : rByte b) : kC l yX5_push cX5_push 2 (some .boolean) 1 21 (0) (0) D cI cB [.ref m0, .int b] [(m0, .inr (5, [.ref yb, .ref yz, .ref ye, .int (nI dz), .int (nI sz), .int (nI wz), .int (nI bz), .int (nI uS), .int (nI uW), .ref ys, .ref yg, .int (nI mr), .int (nI ml), .int (nI mw), .int (nI ma), .ref yf, .ref yh, .ref yw, .ref yn, .ref yt, .ref yl, .int (nI tz)])), (ye, .inl (cB, 8100, .inl E))] (fun (vV : Option Value) (uU : va_W) => vV = some (.int 1) ∧ uU = [(m0, .inr (5, [.ref yb, .ref yz, .ref ye, .int (nI (dz + 1)), .int (nI sz), .int (nI wz), .int (nI bz), .int (nI uS), .int (nI uW), .ref ys, .ref yg, .int (nI mr), .int (nI ml), .int (nI mw), .int (nI ma), .ref yf, .ref yh, .ref yw, .ref yn, .ref yt, .ref yl, .int (nI tz)])), (ye, .inl (cB, 8100, .inl (upd E dz b.toInt8.toInt32)))]) := by
  refine k_entry (lv0 := [(0, .ref m0), (1, .int b)]) (by decide) (Nat.le_of_ble_eq_true rfl) rfl ?_
  intro zp ze zs zm zb zt zc zA X hr hin
  refine k_iload_n X dX5_push_0 rfl 1 rfl ?_
  refine k_if_lt (tgt := 21) (xi := b.toInt) X (rfl) dX5_push_1 (by decide) (fun c_1 => ?_) (fun c_1 => ?_)
  · exact absurd c_1 (by omega)
  · refine k_iload_n X dX5_push_4 rfl 1 rfl ?_
    refine k_sipush (v := 255) X dX5_push_5 (by decide) ?_
    refine k_icmp_gt (tgt := 21) (xi := b.toInt) (yi := (255 : Int)) X (rfl) (by decide) dX5_push_8 (by decide) (fun c_8 => ?_) (fun c_8 => ?_)
    · exact absurd c_8 (by omega)
    · refine k_aload_n X dX5_push_11 rfl 0 rfl ?_
      refine k_get (v := .int (nI dz)) X 0 5 3 rfl rfl (by decide) fl_X5_157 in_X5 rfl rfl dX5_push_12 ?_
      refine k_sipush (v := 6000) X dX5_push_15 (by decide) ?_
      refine k_icmp_lt (tgt := 23) (xi := ((dz : Nat) : Int)) (yi := (6000 : Int)) X (nI_toInt (by omega)) (by decide) dX5_push_18 (by decide) (fun c_18 => ?_) (fun c_18 => ?_)
      · refine k_aload_n X dX5_push_23 rfl 0 rfl ?_
        refine k_iload_n X dX5_push_24 rfl 1 rfl ?_
        refine k_callV (wc := [(m0, .inr (5, [.ref yb, .ref yz, .ref ye, .int (nI dz), .int (nI sz), .int (nI wz), .int (nI bz), .int (nI uS), .int (nI uW), .ref ys, .ref yg, .int (nI mr), .int (nI ml), .int (nI mw), .int (nI ma), .ref yf, .ref yh, .ref yw, .ref yn, .ref yt, .ref yl, .int (nI tz)])), (ye, .inl (cB, 8100, .inl E))]) (wr := []) (As := [.int b]) (n := 1) (st := []) (q0 := 0) X (m_add l D cI cB m0 yb yz ye ys yg yf yh yw yn yt yl dz sz wz bz uS uW mr ml mw ma tz E b (by omega)) rfl rfl ml_X5_175 im_X5_add se_X5_add ini_X5 co_X5_add (by decide +kernel) rfl ⟨Nat.le_of_ble_eq_true rfl, Nat.le_of_ble_eq_true rfl⟩ (⟨by (try dsimp only); omega, by (try dsimp only); omega⟩) (Nat.le_of_ble_eq_true rfl) [0, 1] [] rfl rfl rfl (by decide) (by decide) (by decide) rfl dX5_push_25 (fun v_25 u_25 hu_25 => ?_)
        obtain ⟨rfl, rfl⟩ := hu_25
        refine k_to (ws' := [(m0, .inr (5, [.ref yb, .ref yz, .ref ye, .int (nI (dz + 1)), .int (nI sz), .int (nI wz), .int (nI bz), .int (nI uS), .int (nI uW), .ref ys, .ref yg, .int (nI mr), .int (nI ml), .int (nI mw), .int (nI ma), .ref yf, .ref yh, .ref yw, .ref yn, .ref yt, .ref yl, .int (nI tz)])), (ye, .inl (cB, 8100, .inl (upd E dz b.toInt8.toInt32)))]) (st' := []) rfl rfl ?_
        refine k_iconst (v := 1) X dX5_push_28 (by decide) ?_
        exact k_zret (u := [(m0, .inr (5, [.ref yb, .ref yz, .ref ye, .int (nI (dz + 1)), .int (nI sz), .int (nI wz), .int (nI bz), .int (nI uS), .int (nI uW), .ref ys, .ref yg, .int (nI mr), .int (nI ml), .int (nI mw), .int (nI ma), .ref yf, .ref yh, .ref yw, .ref yn, .ref yt, .ref yl, .int (nI tz)])), (ye, .inl (cB, 8100, .inl (upd E dz b.toInt8.toInt32)))]) X (by first | rfl | exact b2i_nar _ | decide) hr [0, 1] (by decide) rfl rfl (⟨rfl, rfl⟩) (by (try dsimp only); omega) (by (try dsimp only); omega) dX5_push_29
      · exact absurd c_18 (by omega)
set_option maxHeartbeats 4000000 in
set_option maxRecDepth 100000 in
theorem m_push_f (l : Launch) (D : va_G) (cI cB : ClassId) (m0 : Nat) (yb : Nat) (yz : Nat) (ye : Nat) (ys : Nat) (yg : Nat) (yf : Nat) (yh : Nat) (yw : Nat) (yn : Nat) (yt : Nat) (yl : Nat) (dz : Nat) (sz : Nat) (wz : Nat) (bz : Nat) (uS : Nat) (uW : Nat) (mr : Nat) (ml : Nat) (mw : Nat) (ma : Nat) (tz : Nat) (b : Int32) (hk : dz ≤ 8000) (hf : ¬ (dz < 6000 ∧ rByte b)) : kC l yX5_push cX5_push 2 (some .boolean) 0 0 (0) (0) D cI cB [.ref m0, .int b] [(m0, .inr (5, [.ref yb, .ref yz, .ref ye, .int (nI dz), .int (nI sz), .int (nI wz), .int (nI bz), .int (nI uS), .int (nI uW), .ref ys, .ref yg, .int (nI mr), .int (nI ml), .int (nI mw), .int (nI ma), .ref yf, .ref yh, .ref yw, .ref yn, .ref yt, .ref yl, .int (nI tz)]))] (fun (vV : Option Value) (uU : va_W) => vV = some (.int 0) ∧ uU = [(m0, .inr (5, [.ref yb, .ref yz, .ref ye, .int (nI dz), .int (nI sz), .int (nI wz), .int (nI bz), .int (nI uS), .int (nI uW), .ref ys, .ref yg, .int (nI mr), .int (nI ml), .int (nI mw), .int (nI ma), .ref yf, .ref yh, .ref yw, .ref yn, .ref yt, .ref yl, .int (nI tz)]))]) := by
  refine k_entry (lv0 := [(0, .ref m0), (1, .int b)]) (by decide) (Nat.le_of_ble_eq_true rfl) rfl ?_
  intro zp ze zs zm zb zt zc zA X hr hin
  refine k_iload_n X dX5_push_0 rfl 1 rfl ?_
  refine k_if_lt (tgt := 21) (xi := b.toInt) X (rfl) dX5_push_1 (by decide) (fun c_1 => ?_) (fun c_1 => ?_)
  · refine k_iconst (v := 0) X dX5_push_21 (by decide) ?_
    exact k_zret (u := [(m0, .inr (5, [.ref yb, .ref yz, .ref ye, .int (nI dz), .int (nI sz), .int (nI wz), .int (nI bz), .int (nI uS), .int (nI uW), .ref ys, .ref yg, .int (nI mr), .int (nI ml), .int (nI mw), .int (nI ma), .ref yf, .ref yh, .ref yw, .ref yn, .ref yt, .ref yl, .int (nI tz)]))]) X (by first | rfl | exact b2i_nar _ | decide) hr [0] (by decide) rfl rfl (⟨rfl, rfl⟩) (by (try dsimp only); omega) (by (try dsimp only); omega) dX5_push_22
  · refine k_iload_n X dX5_push_4 rfl 1 rfl ?_
    refine k_sipush (v := 255) X dX5_push_5 (by decide) ?_
    refine k_icmp_gt (tgt := 21) (xi := b.toInt) (yi := (255 : Int)) X (rfl) (by decide) dX5_push_8 (by decide) (fun c_8 => ?_) (fun c_8 => ?_)
    · refine k_iconst (v := 0) X dX5_push_21 (by decide) ?_
      exact k_zret (u := [(m0, .inr (5, [.ref yb, .ref yz, .ref ye, .int (nI dz), .int (nI sz), .int (nI wz), .int (nI bz), .int (nI uS), .int (nI uW), .ref ys, .ref yg, .int (nI mr), .int (nI ml), .int (nI mw), .int (nI ma), .ref yf, .ref yh, .ref yw, .ref yn, .ref yt, .ref yl, .int (nI tz)]))]) X (by first | rfl | exact b2i_nar _ | decide) hr [0] (by decide) rfl rfl (⟨rfl, rfl⟩) (by (try dsimp only); omega) (by (try dsimp only); omega) dX5_push_22
    · refine k_aload_n X dX5_push_11 rfl 0 rfl ?_
      refine k_get (v := .int (nI dz)) X 0 5 3 rfl rfl (by decide) fl_X5_157 in_X5 rfl rfl dX5_push_12 ?_
      refine k_sipush (v := 6000) X dX5_push_15 (by decide) ?_
      refine k_icmp_lt (tgt := 23) (xi := ((dz : Nat) : Int)) (yi := (6000 : Int)) X (nI_toInt (by omega)) (by decide) dX5_push_18 (by decide) (fun c_18 => ?_) (fun c_18 => ?_)
      · exact absurd c_18 (by omega)
      · refine k_iconst (v := 0) X dX5_push_21 (by decide) ?_
        exact k_zret (u := [(m0, .inr (5, [.ref yb, .ref yz, .ref ye, .int (nI dz), .int (nI sz), .int (nI wz), .int (nI bz), .int (nI uS), .int (nI uW), .ref ys, .ref yg, .int (nI mr), .int (nI ml), .int (nI mw), .int (nI ma), .ref yf, .ref yh, .ref yw, .ref yn, .ref yt, .ref yl, .int (nI tz)]))]) X (by first | rfl | exact b2i_nar _ | decide) hr [0] (by decide) rfl rfl (⟨rfl, rfl⟩) (by (try dsimp only); omega) (by (try dsimp only); omega) dX5_push_22
set_option maxHeartbeats 4000000 in
set_option maxRecDepth 100000 in
theorem m_keep (l : Launch) (D : va_G) (cI cB : ClassId) (m0 : Nat) (yb : Nat) (yz : Nat) (ye : Nat) (ys : Nat) (yg : Nat) (yf : Nat) (yh : Nat) (yw : Nat) (yn : Nat) (yt : Nat) (yl : Nat) (dz : Nat) (sz : Nat) (wz : Nat) (bz : Nat) (uS : Nat) (uW : Nat) (mr : Nat) (ml : Nat) (mw : Nat) (ma : Nat) (tz : Nat) (x : Int32) (hk : dz ≤ 8000) : kC l yX5_keep cX5_keep 2 (some .boolean) 0 0 (0) (0) D cI cB [.ref m0, .int x] [(m0, .inr (5, [.ref yb, .ref yz, .ref ye, .int (nI dz), .int (nI sz), .int (nI wz), .int (nI bz), .int (nI uS), .int (nI uW), .ref ys, .ref yg, .int (nI mr), .int (nI ml), .int (nI mw), .int (nI ma), .ref yf, .ref yh, .ref yw, .ref yn, .ref yt, .ref yl, .int (nI tz)]))] (fun (vV : Option Value) (uU : va_W) => vV = some (.int (b2i (decide (0 ≤ x.toInt ∧ x.toInt ≤ dz)))) ∧ uU = [(m0, .inr (5, [.ref yb, .ref yz, .ref ye, .int (nI (if 0 ≤ x.toInt ∧ x.toInt ≤ dz then x.toNatClampNeg else dz)), .int (nI sz), .int (nI wz), .int (nI bz), .int (nI uS), .int (nI uW), .ref ys, .ref yg, .int (nI mr), .int (nI ml), .int (nI mw), .int (nI ma), .ref yf, .ref yh, .ref yw, .ref yn, .ref yt, .ref yl, .int (nI tz)]))]) := by
  refine k_entry (lv0 := [(0, .ref m0), (1, .int x)]) (by decide) (Nat.le_of_ble_eq_true rfl) rfl ?_
  intro zp ze zs zm zb zt zc zA X hr hin
  refine k_iload_n X dX5_keep_0 rfl 1 rfl ?_
  refine k_if_lt (tgt := 12) (xi := x.toInt) X (rfl) dX5_keep_1 (by decide) (fun c_1 => ?_) (fun c_1 => ?_)
  · refine k_iconst (v := 0) X dX5_keep_12 (by decide) ?_
    exact k_zret (u := [(m0, .inr (5, [.ref yb, .ref yz, .ref ye, .int (nI dz), .int (nI sz), .int (nI wz), .int (nI bz), .int (nI uS), .int (nI uW), .ref ys, .ref yg, .int (nI mr), .int (nI ml), .int (nI mw), .int (nI ma), .ref yf, .ref yh, .ref yw, .ref yn, .ref yt, .ref yl, .int (nI tz)]))]) X (by first | rfl | exact b2i_nar _ | decide) hr [0] (by decide) rfl rfl (⟨by rw [b2i_f (by omega)], by rw [if_neg (by omega)]⟩) (by (try dsimp only); omega) (by (try dsimp only); omega) dX5_keep_13
  · refine k_iload_n X dX5_keep_4 rfl 1 rfl ?_
    refine k_aload_n X dX5_keep_5 rfl 0 rfl ?_
    refine k_get (v := .int (nI dz)) X 0 5 3 rfl rfl (by decide) fl_X5_157 in_X5 rfl rfl dX5_keep_6 ?_
    refine k_icmp_le (tgt := 14) (xi := x.toInt) (yi := ((dz : Nat) : Int)) X (rfl) (nI_toInt (by omega)) dX5_keep_9 (by decide) (fun c_9 => ?_) (fun c_9 => ?_)
    · refine k_aload_n X dX5_keep_14 rfl 0 rfl ?_
      refine k_iload_n X dX5_keep_15 rfl 1 rfl ?_
      refine k_as (y := nI x.toNatClampNeg) ((i_of (n := dz + 1) (by omega) (by omega)).2.1) ?_
      refine k_put (v := .int (nI x.toNatClampNeg)) (ty := .int) (ws' := [(m0, .inr (5, [.ref yb, .ref yz, .ref ye, .int (nI x.toNatClampNeg), .int (nI sz), .int (nI wz), .int (nI bz), .int (nI uS), .int (nI uW), .ref ys, .ref yg, .int (nI mr), .int (nI ml), .int (nI mw), .int (nI ma), .ref yf, .ref yh, .ref yw, .ref yn, .ref yt, .ref yl, .int (nI tz)]))]) X 0 5 3 tyX5 tyX5_ok nmX5 rfl rfl (by decide) fl_X5_157 in_X5 rfl rfl (by decide +kernel) rfl rfl (Nat.le_of_ble_eq_true rfl) rfl dX5_keep_16 ?_
      refine k_iconst (v := 1) X dX5_keep_19 (by decide) ?_
      exact k_zret (u := [(m0, .inr (5, [.ref yb, .ref yz, .ref ye, .int (nI x.toNatClampNeg), .int (nI sz), .int (nI wz), .int (nI bz), .int (nI uS), .int (nI uW), .ref ys, .ref yg, .int (nI mr), .int (nI ml), .int (nI mw), .int (nI ma), .ref yf, .ref yh, .ref yw, .ref yn, .ref yt, .ref yl, .int (nI tz)]))]) X (by first | rfl | exact b2i_nar _ | decide) hr [0] (by decide) rfl rfl (⟨by rw [b2i_t (by omega)], by rw [if_pos (by omega)]⟩) (by (try dsimp only); omega) (by (try dsimp only); omega) dX5_keep_20
    · refine k_iconst (v := 0) X dX5_keep_12 (by decide) ?_
      exact k_zret (u := [(m0, .inr (5, [.ref yb, .ref yz, .ref ye, .int (nI dz), .int (nI sz), .int (nI wz), .int (nI bz), .int (nI uS), .int (nI uW), .ref ys, .ref yg, .int (nI mr), .int (nI ml), .int (nI mw), .int (nI ma), .ref yf, .ref yh, .ref yw, .ref yn, .ref yt, .ref yl, .int (nI tz)]))]) X (by first | rfl | exact b2i_nar _ | decide) hr [0] (by decide) rfl rfl (⟨by rw [b2i_f (by omega)], by rw [if_neg (by omega)]⟩) (by (try dsimp only); omega) (by (try dsimp only); omega) dX5_keep_13
set_option maxHeartbeats 4000000 in
set_option maxRecDepth 100000 in
theorem m_count_0 (l : Launch) (D : va_G) (cI cB : ClassId) (m0 : Nat) (yb : Nat) (yz : Nat) (ye : Nat) (ys : Nat) (yg : Nat) (yf : Nat) (yh : Nat) (yw : Nat) (yn : Nat) (yt : Nat) (yl : Nat) (dz : Nat) (sz : Nat) (wz : Nat) (bz : Nat) (uS : Nat) (uW : Nat) (mr : Nat) (ml : Nat) (mw : Nat) (ma : Nat) (tz : Nat)  : kC l yX5_count cX5_count 2 (some .int) 0 0 (0) (0) D cI cB [.ref m0, .int 0] [(m0, .inr (5, [.ref yb, .ref yz, .ref ye, .int (nI dz), .int (nI sz), .int (nI wz), .int (nI bz), .int (nI uS), .int (nI uW), .ref ys, .ref yg, .int (nI mr), .int (nI ml), .int (nI mw), .int (nI ma), .ref yf, .ref yh, .ref yw, .ref yn, .ref yt, .ref yl, .int (nI tz)]))] (fun (vV : Option Value) (uU : va_W) => vV = some (.int (nI mr)) ∧ uU = [(m0, .inr (5, [.ref yb, .ref yz, .ref ye, .int (nI dz), .int (nI sz), .int (nI wz), .int (nI bz), .int (nI uS), .int (nI uW), .ref ys, .ref yg, .int (nI mr), .int (nI ml), .int (nI mw), .int (nI ma), .ref yf, .ref yh, .ref yw, .ref yn, .ref yt, .ref yl, .int (nI tz)]))]) := by
  refine k_entry (lv0 := [(0, .ref m0), (1, .int 0)]) (by decide) (Nat.le_of_ble_eq_true rfl) rfl ?_
  intro zp ze zs zm zb zt zc zA X hr hin
  refine k_iload_n X dX5_count_0 rfl 1 rfl ?_
  refine k_tableIn (off := 43) (tgt := 44) X dX5_count_1 (by decide) (by decide) (by decide) (by decide) ?_
  refine k_aload_n X dX5_count_44 rfl 0 rfl ?_
  refine k_get (v := .int (nI mr)) X 0 5 11 rfl rfl (by decide) fl_X5_160 in_X5 rfl rfl dX5_count_45 ?_
  exact k_iret (u := [(m0, .inr (5, [.ref yb, .ref yz, .ref ye, .int (nI dz), .int (nI sz), .int (nI wz), .int (nI bz), .int (nI uS), .int (nI uW), .ref ys, .ref yg, .int (nI mr), .int (nI ml), .int (nI mw), .int (nI ma), .ref yf, .ref yh, .ref yw, .ref yn, .ref yt, .ref yl, .int (nI tz)]))]) X hr [0] (by decide) rfl rfl (⟨rfl, rfl⟩) (by (try dsimp only); omega) (by (try dsimp only); omega) dX5_count_48
set_option maxHeartbeats 4000000 in
set_option maxRecDepth 100000 in
theorem m_count_1 (l : Launch) (D : va_G) (cI cB : ClassId) (m0 : Nat) (yb : Nat) (yz : Nat) (ye : Nat) (ys : Nat) (yg : Nat) (yf : Nat) (yh : Nat) (yw : Nat) (yn : Nat) (yt : Nat) (yl : Nat) (dz : Nat) (sz : Nat) (wz : Nat) (bz : Nat) (uS : Nat) (uW : Nat) (mr : Nat) (ml : Nat) (mw : Nat) (ma : Nat) (tz : Nat)  : kC l yX5_count cX5_count 2 (some .int) 0 0 (0) (0) D cI cB [.ref m0, .int 1] [(m0, .inr (5, [.ref yb, .ref yz, .ref ye, .int (nI dz), .int (nI sz), .int (nI wz), .int (nI bz), .int (nI uS), .int (nI uW), .ref ys, .ref yg, .int (nI mr), .int (nI ml), .int (nI mw), .int (nI ma), .ref yf, .ref yh, .ref yw, .ref yn, .ref yt, .ref yl, .int (nI tz)]))] (fun (vV : Option Value) (uU : va_W) => vV = some (.int (nI ml)) ∧ uU = [(m0, .inr (5, [.ref yb, .ref yz, .ref ye, .int (nI dz), .int (nI sz), .int (nI wz), .int (nI bz), .int (nI uS), .int (nI uW), .ref ys, .ref yg, .int (nI mr), .int (nI ml), .int (nI mw), .int (nI ma), .ref yf, .ref yh, .ref yw, .ref yn, .ref yt, .ref yl, .int (nI tz)]))]) := by
  refine k_entry (lv0 := [(0, .ref m0), (1, .int 1)]) (by decide) (Nat.le_of_ble_eq_true rfl) rfl ?_
  intro zp ze zs zm zb zt zc zA X hr hin
  refine k_iload_n X dX5_count_0 rfl 1 rfl ?_
  refine k_tableIn (off := 48) (tgt := 49) X dX5_count_1 (by decide) (by decide) (by decide) (by decide) ?_
  refine k_aload_n X dX5_count_49 rfl 0 rfl ?_
  refine k_get (v := .int (nI ml)) X 0 5 12 rfl rfl (by decide) fl_X5_163 in_X5 rfl rfl dX5_count_50 ?_
  exact k_iret (u := [(m0, .inr (5, [.ref yb, .ref yz, .ref ye, .int (nI dz), .int (nI sz), .int (nI wz), .int (nI bz), .int (nI uS), .int (nI uW), .ref ys, .ref yg, .int (nI mr), .int (nI ml), .int (nI mw), .int (nI ma), .ref yf, .ref yh, .ref yw, .ref yn, .ref yt, .ref yl, .int (nI tz)]))]) X hr [0] (by decide) rfl rfl (⟨rfl, rfl⟩) (by (try dsimp only); omega) (by (try dsimp only); omega) dX5_count_53
set_option maxHeartbeats 4000000 in
set_option maxRecDepth 100000 in
theorem m_count_2 (l : Launch) (D : va_G) (cI cB : ClassId) (m0 : Nat) (yb : Nat) (yz : Nat) (ye : Nat) (ys : Nat) (yg : Nat) (yf : Nat) (yh : Nat) (yw : Nat) (yn : Nat) (yt : Nat) (yl : Nat) (dz : Nat) (sz : Nat) (wz : Nat) (bz : Nat) (uS : Nat) (uW : Nat) (mr : Nat) (ml : Nat) (mw : Nat) (ma : Nat) (tz : Nat)  : kC l yX5_count cX5_count 2 (some .int) 0 0 (0) (0) D cI cB [.ref m0, .int 2] [(m0, .inr (5, [.ref yb, .ref yz, .ref ye, .int (nI dz), .int (nI sz), .int (nI wz), .int (nI bz), .int (nI uS), .int (nI uW), .ref ys, .ref yg, .int (nI mr), .int (nI ml), .int (nI mw), .int (nI ma), .ref yf, .ref yh, .ref yw, .ref yn, .ref yt, .ref yl, .int (nI tz)]))] (fun (vV : Option Value) (uU : va_W) => vV = some (.int (nI mw)) ∧ uU = [(m0, .inr (5, [.ref yb, .ref yz, .ref ye, .int (nI dz), .int (nI sz), .int (nI wz), .int (nI bz), .int (nI uS), .int (nI uW), .ref ys, .ref yg, .int (nI mr), .int (nI ml), .int (nI mw), .int (nI ma), .ref yf, .ref yh, .ref yw, .ref yn, .ref yt, .ref yl, .int (nI tz)]))]) := by
  refine k_entry (lv0 := [(0, .ref m0), (1, .int 2)]) (by decide) (Nat.le_of_ble_eq_true rfl) rfl ?_
  intro zp ze zs zm zb zt zc zA X hr hin
  refine k_iload_n X dX5_count_0 rfl 1 rfl ?_
  refine k_tableIn (off := 53) (tgt := 54) X dX5_count_1 (by decide) (by decide) (by decide) (by decide) ?_
  refine k_aload_n X dX5_count_54 rfl 0 rfl ?_
  refine k_get (v := .int (nI mw)) X 0 5 13 rfl rfl (by decide) fl_X5_166 in_X5 rfl rfl dX5_count_55 ?_
  exact k_iret (u := [(m0, .inr (5, [.ref yb, .ref yz, .ref ye, .int (nI dz), .int (nI sz), .int (nI wz), .int (nI bz), .int (nI uS), .int (nI uW), .ref ys, .ref yg, .int (nI mr), .int (nI ml), .int (nI mw), .int (nI ma), .ref yf, .ref yh, .ref yw, .ref yn, .ref yt, .ref yl, .int (nI tz)]))]) X hr [0] (by decide) rfl rfl (⟨rfl, rfl⟩) (by (try dsimp only); omega) (by (try dsimp only); omega) dX5_count_58
set_option maxHeartbeats 4000000 in
set_option maxRecDepth 100000 in
theorem m_count_3 (l : Launch) (D : va_G) (cI cB : ClassId) (m0 : Nat) (yb : Nat) (yz : Nat) (ye : Nat) (ys : Nat) (yg : Nat) (yf : Nat) (yh : Nat) (yw : Nat) (yn : Nat) (yt : Nat) (yl : Nat) (dz : Nat) (sz : Nat) (wz : Nat) (bz : Nat) (uS : Nat) (uW : Nat) (mr : Nat) (ml : Nat) (mw : Nat) (ma : Nat) (tz : Nat)  : kC l yX5_count cX5_count 2 (some .int) 0 0 (0) (0) D cI cB [.ref m0, .int 3] [(m0, .inr (5, [.ref yb, .ref yz, .ref ye, .int (nI dz), .int (nI sz), .int (nI wz), .int (nI bz), .int (nI uS), .int (nI uW), .ref ys, .ref yg, .int (nI mr), .int (nI ml), .int (nI mw), .int (nI ma), .ref yf, .ref yh, .ref yw, .ref yn, .ref yt, .ref yl, .int (nI tz)]))] (fun (vV : Option Value) (uU : va_W) => vV = some (.int (nI ma)) ∧ uU = [(m0, .inr (5, [.ref yb, .ref yz, .ref ye, .int (nI dz), .int (nI sz), .int (nI wz), .int (nI bz), .int (nI uS), .int (nI uW), .ref ys, .ref yg, .int (nI mr), .int (nI ml), .int (nI mw), .int (nI ma), .ref yf, .ref yh, .ref yw, .ref yn, .ref yt, .ref yl, .int (nI tz)]))]) := by
  refine k_entry (lv0 := [(0, .ref m0), (1, .int 3)]) (by decide) (Nat.le_of_ble_eq_true rfl) rfl ?_
  intro zp ze zs zm zb zt zc zA X hr hin
  refine k_iload_n X dX5_count_0 rfl 1 rfl ?_
  refine k_tableIn (off := 58) (tgt := 59) X dX5_count_1 (by decide) (by decide) (by decide) (by decide) ?_
  refine k_aload_n X dX5_count_59 rfl 0 rfl ?_
  refine k_get (v := .int (nI ma)) X 0 5 14 rfl rfl (by decide) fl_X5_154 in_X5 rfl rfl dX5_count_60 ?_
  exact k_iret (u := [(m0, .inr (5, [.ref yb, .ref yz, .ref ye, .int (nI dz), .int (nI sz), .int (nI wz), .int (nI bz), .int (nI uS), .int (nI uW), .ref ys, .ref yg, .int (nI mr), .int (nI ml), .int (nI mw), .int (nI ma), .ref yf, .ref yh, .ref yw, .ref yn, .ref yt, .ref yl, .int (nI tz)]))]) X hr [0] (by decide) rfl rfl (⟨rfl, rfl⟩) (by (try dsimp only); omega) (by (try dsimp only); omega) dX5_count_63
set_option maxHeartbeats 4000000 in
set_option maxRecDepth 100000 in
theorem m_count_4 (l : Launch) (D : va_G) (cI cB : ClassId) (m0 : Nat) (yb : Nat) (yz : Nat) (ye : Nat) (ys : Nat) (yg : Nat) (yf : Nat) (yh : Nat) (yw : Nat) (yn : Nat) (yt : Nat) (yl : Nat) (dz : Nat) (sz : Nat) (wz : Nat) (bz : Nat) (uS : Nat) (uW : Nat) (mr : Nat) (ml : Nat) (mw : Nat) (ma : Nat) (tz : Nat)  : kC l yX5_count cX5_count 2 (some .int) 0 0 (0) (0) D cI cB [.ref m0, .int 4] [(m0, .inr (5, [.ref yb, .ref yz, .ref ye, .int (nI dz), .int (nI sz), .int (nI wz), .int (nI bz), .int (nI uS), .int (nI uW), .ref ys, .ref yg, .int (nI mr), .int (nI ml), .int (nI mw), .int (nI ma), .ref yf, .ref yh, .ref yw, .ref yn, .ref yt, .ref yl, .int (nI tz)]))] (fun (vV : Option Value) (uU : va_W) => vV = some (.int (nI bz)) ∧ uU = [(m0, .inr (5, [.ref yb, .ref yz, .ref ye, .int (nI dz), .int (nI sz), .int (nI wz), .int (nI bz), .int (nI uS), .int (nI uW), .ref ys, .ref yg, .int (nI mr), .int (nI ml), .int (nI mw), .int (nI ma), .ref yf, .ref yh, .ref yw, .ref yn, .ref yt, .ref yl, .int (nI tz)]))]) := by
  refine k_entry (lv0 := [(0, .ref m0), (1, .int 4)]) (by decide) (Nat.le_of_ble_eq_true rfl) rfl ?_
  intro zp ze zs zm zb zt zc zA X hr hin
  refine k_iload_n X dX5_count_0 rfl 1 rfl ?_
  refine k_tableIn (off := 63) (tgt := 64) X dX5_count_1 (by decide) (by decide) (by decide) (by decide) ?_
  refine k_aload_n X dX5_count_64 rfl 0 rfl ?_
  refine k_get (v := .int (nI bz)) X 0 5 6 rfl rfl (by decide) fl_X5_136 in_X5 rfl rfl dX5_count_65 ?_
  exact k_iret (u := [(m0, .inr (5, [.ref yb, .ref yz, .ref ye, .int (nI dz), .int (nI sz), .int (nI wz), .int (nI bz), .int (nI uS), .int (nI uW), .ref ys, .ref yg, .int (nI mr), .int (nI ml), .int (nI mw), .int (nI ma), .ref yf, .ref yh, .ref yw, .ref yn, .ref yt, .ref yl, .int (nI tz)]))]) X hr [0] (by decide) rfl rfl (⟨rfl, rfl⟩) (by (try dsimp only); omega) (by (try dsimp only); omega) dX5_count_68
set_option maxHeartbeats 4000000 in
set_option maxRecDepth 100000 in
theorem m_count_5 (l : Launch) (D : va_G) (cI cB : ClassId) (m0 : Nat) (yb : Nat) (yz : Nat) (ye : Nat) (ys : Nat) (yg : Nat) (yf : Nat) (yh : Nat) (yw : Nat) (yn : Nat) (yt : Nat) (yl : Nat) (dz : Nat) (sz : Nat) (wz : Nat) (bz : Nat) (uS : Nat) (uW : Nat) (mr : Nat) (ml : Nat) (mw : Nat) (ma : Nat) (tz : Nat)  : kC l yX5_count cX5_count 2 (some .int) 0 0 (0) (0) D cI cB [.ref m0, .int 5] [(m0, .inr (5, [.ref yb, .ref yz, .ref ye, .int (nI dz), .int (nI sz), .int (nI wz), .int (nI bz), .int (nI uS), .int (nI uW), .ref ys, .ref yg, .int (nI mr), .int (nI ml), .int (nI mw), .int (nI ma), .ref yf, .ref yh, .ref yw, .ref yn, .ref yt, .ref yl, .int (nI tz)]))] (fun (vV : Option Value) (uU : va_W) => vV = some (.int (nI uS)) ∧ uU = [(m0, .inr (5, [.ref yb, .ref yz, .ref ye, .int (nI dz), .int (nI sz), .int (nI wz), .int (nI bz), .int (nI uS), .int (nI uW), .ref ys, .ref yg, .int (nI mr), .int (nI ml), .int (nI mw), .int (nI ma), .ref yf, .ref yh, .ref yw, .ref yn, .ref yt, .ref yl, .int (nI tz)]))]) := by
  refine k_entry (lv0 := [(0, .ref m0), (1, .int 5)]) (by decide) (Nat.le_of_ble_eq_true rfl) rfl ?_
  intro zp ze zs zm zb zt zc zA X hr hin
  refine k_iload_n X dX5_count_0 rfl 1 rfl ?_
  refine k_tableIn (off := 68) (tgt := 69) X dX5_count_1 (by decide) (by decide) (by decide) (by decide) ?_
  refine k_aload_n X dX5_count_69 rfl 0 rfl ?_
  refine k_get (v := .int (nI uS)) X 0 5 7 rfl rfl (by decide) fl_X5_27 in_X5 rfl rfl dX5_count_70 ?_
  exact k_iret (u := [(m0, .inr (5, [.ref yb, .ref yz, .ref ye, .int (nI dz), .int (nI sz), .int (nI wz), .int (nI bz), .int (nI uS), .int (nI uW), .ref ys, .ref yg, .int (nI mr), .int (nI ml), .int (nI mw), .int (nI ma), .ref yf, .ref yh, .ref yw, .ref yn, .ref yt, .ref yl, .int (nI tz)]))]) X hr [0] (by decide) rfl rfl (⟨rfl, rfl⟩) (by (try dsimp only); omega) (by (try dsimp only); omega) dX5_count_73
set_option maxHeartbeats 4000000 in
set_option maxRecDepth 100000 in
theorem m_count_6 (l : Launch) (D : va_G) (cI cB : ClassId) (m0 : Nat) (yb : Nat) (yz : Nat) (ye : Nat) (ys : Nat) (yg : Nat) (yf : Nat) (yh : Nat) (yw : Nat) (yn : Nat) (yt : Nat) (yl : Nat) (dz : Nat) (sz : Nat) (wz : Nat) (bz : Nat) (uS : Nat) (uW : Nat) (mr : Nat) (ml : Nat) (mw : Nat) (ma : Nat) (tz : Nat)  : kC l yX5_count cX5_count 2 (some .int) 0 0 (0) (0) D cI cB [.ref m0, .int 6] [(m0, .inr (5, [.ref yb, .ref yz, .ref ye, .int (nI dz), .int (nI sz), .int (nI wz), .int (nI bz), .int (nI uS), .int (nI uW), .ref ys, .ref yg, .int (nI mr), .int (nI ml), .int (nI mw), .int (nI ma), .ref yf, .ref yh, .ref yw, .ref yn, .ref yt, .ref yl, .int (nI tz)]))] (fun (vV : Option Value) (uU : va_W) => vV = some (.int (nI uW)) ∧ uU = [(m0, .inr (5, [.ref yb, .ref yz, .ref ye, .int (nI dz), .int (nI sz), .int (nI wz), .int (nI bz), .int (nI uS), .int (nI uW), .ref ys, .ref yg, .int (nI mr), .int (nI ml), .int (nI mw), .int (nI ma), .ref yf, .ref yh, .ref yw, .ref yn, .ref yt, .ref yl, .int (nI tz)]))]) := by
  refine k_entry (lv0 := [(0, .ref m0), (1, .int 6)]) (by decide) (Nat.le_of_ble_eq_true rfl) rfl ?_
  intro zp ze zs zm zb zt zc zA X hr hin
  refine k_iload_n X dX5_count_0 rfl 1 rfl ?_
  refine k_tableIn (off := 73) (tgt := 74) X dX5_count_1 (by decide) (by decide) (by decide) (by decide) ?_
  refine k_aload_n X dX5_count_74 rfl 0 rfl ?_
  refine k_get (v := .int (nI uW)) X 0 5 8 rfl rfl (by decide) fl_X5_30 in_X5 rfl rfl dX5_count_75 ?_
  exact k_iret (u := [(m0, .inr (5, [.ref yb, .ref yz, .ref ye, .int (nI dz), .int (nI sz), .int (nI wz), .int (nI bz), .int (nI uS), .int (nI uW), .ref ys, .ref yg, .int (nI mr), .int (nI ml), .int (nI mw), .int (nI ma), .ref yf, .ref yh, .ref yw, .ref yn, .ref yt, .ref yl, .int (nI tz)]))]) X hr [0] (by decide) rfl rfl (⟨rfl, rfl⟩) (by (try dsimp only); omega) (by (try dsimp only); omega) dX5_count_78
set_option maxHeartbeats 4000000 in
set_option maxRecDepth 100000 in
theorem m_count_f (l : Launch) (D : va_G) (cI cB : ClassId) (m0 : Nat) (yb : Nat) (yz : Nat) (ye : Nat) (ys : Nat) (yg : Nat) (yf : Nat) (yh : Nat) (yw : Nat) (yn : Nat) (yt : Nat) (yl : Nat) (dz : Nat) (sz : Nat) (wz : Nat) (bz : Nat) (uS : Nat) (uW : Nat) (mr : Nat) (ml : Nat) (mw : Nat) (ma : Nat) (tz : Nat) (wh : Int32) (hwh : wh.toInt < 0 ∨ 6 < wh.toInt) : kC l yX5_count cX5_count 2 (some .int) 0 0 (0) (0) D cI cB [.ref m0, .int wh] [(m0, .inr (5, [.ref yb, .ref yz, .ref ye, .int (nI dz), .int (nI sz), .int (nI wz), .int (nI bz), .int (nI uS), .int (nI uW), .ref ys, .ref yg, .int (nI mr), .int (nI ml), .int (nI mw), .int (nI ma), .ref yf, .ref yh, .ref yw, .ref yn, .ref yt, .ref yl, .int (nI tz)]))] (fun (vV : Option Value) (uU : va_W) => vV = some (.int (-1)) ∧ uU = [(m0, .inr (5, [.ref yb, .ref yz, .ref ye, .int (nI dz), .int (nI sz), .int (nI wz), .int (nI bz), .int (nI uS), .int (nI uW), .ref ys, .ref yg, .int (nI mr), .int (nI ml), .int (nI mw), .int (nI ma), .ref yf, .ref yh, .ref yw, .ref yn, .ref yt, .ref yl, .int (nI tz)]))]) := by
  refine k_entry (lv0 := [(0, .ref m0), (1, .int wh)]) (by decide) (Nat.le_of_ble_eq_true rfl) rfl ?_
  intro zp ze zs zm zb zt zc zA X hr hin
  refine k_iload_n X dX5_count_0 rfl 1 rfl ?_
  refine k_tableOut (tgt := 79) X dX5_count_1 (hwh) (by decide) ?_
  refine k_iconst (v := -1) X dX5_count_79 (by decide) ?_
  exact k_iret (u := [(m0, .inr (5, [.ref yb, .ref yz, .ref ye, .int (nI dz), .int (nI sz), .int (nI wz), .int (nI bz), .int (nI uS), .int (nI uW), .ref ys, .ref yg, .int (nI mr), .int (nI ml), .int (nI mw), .int (nI ma), .ref yf, .ref yh, .ref yw, .ref yn, .ref yt, .ref yl, .int (nI tz)]))]) X hr [0] (by decide) rfl rfl (⟨rfl, rfl⟩) (by (try dsimp only); omega) (by (try dsimp only); omega) dX5_count_80
