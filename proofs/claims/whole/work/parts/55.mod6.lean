/-! the reference's delta: tokens first, rows behind -/
theorem tB_cases (f : Nat → Int32) (kn bs wd nb : Nat) (sm dg : Nat → Int32) (p : Nat) (la : Int32) : tB f kn bs wd nb sm dg p la = -1 ∨ (p + bs ≤ kn ∧ ∃ bn, bn < nb ∧ tB f kn bs wd nb sm dg p la = nI bn) := by
  by_cases h : p + bs ≤ kn
  · rcases fnd_cases sm dg (mDig f p bs) nb wd (sSum f p bs) (lF la) with e | ⟨bn, hb, e⟩
    · exact Or.inl (tB_fnd h e)
    · exact Or.inr ⟨h, bn, hb, tB_fnd h e⟩
  · exact Or.inl (tB_no h).1
def dOk (kn nb : Nat) (q : dT) : Prop := match q with
  | (p, la, rf, lt, al, k, _, ro, ir, ia) => p ≤ kn ∧ k ≤ 4 * p ∧ rf ≤ p ∧ lt ≤ p ∧ ro ≤ p ∧ al ≤ p ∧ ir ≤ 255 ∧ (la = -1 ∨ (0 < ir ∧ ∃ lb, lb < nb ∧ la = nI lb)) ∧ (0 < ir → ia < k)
theorem dI_ok (f : Nat → Int32) (kn bs wd nb : Nat) (sm dg : Nat → Int32) (h1 : 1 ≤ bs) (hnb : nb ≤ 2000) : ∀ t, dOk kn nb (dI f kn bs wd nb sm dg t) := by
  intro t
  induction t with
  | zero =>
    show 0 ≤ kn ∧ 0 ≤ 4 * 0 ∧ 0 ≤ 0 ∧ 0 ≤ 0 ∧ 0 ≤ 0 ∧ 0 ≤ 0 ∧ 0 ≤ 255 ∧ _ ∧ _
    exact ⟨by omega, by omega, by omega, by omega, by omega, by omega, by omega, Or.inl rfl, fun z => absurd z (by omega)⟩
  | succ t ih =>
    rcases hd : dI f kn bs wd nb sm dg t with ⟨p, la, rf, lt, al, k, g, ro, ir, ia⟩
    rw [hd] at ih
    obtain ⟨a1, a2, a3, a4, a5, a6, a7, a8, a9⟩ := ih
    have hA := tA_le f kn bs wd nb sm dg p la
    by_cases hp : kn ≤ p
    · have e : dI f kn bs wd nb sm dg (t + 1) = (p, la, rf, lt, al, k, g, ro, ir, ia) := by
        show dStep f kn bs wd nb sm dg (dI f kn bs wd nb sm dg t) = _
        rw [hd]
        exact dStep_stop hp
      rw [e]
      exact ⟨a1, a2, a3, a4, a5, a6, a7, a8, a9⟩
    · rcases tB_cases f kn bs wd nb sm dg p la with hb | ⟨hpb, bn, hbn, hb⟩
      · by_cases hg : la = -1 ∧ 0 < ir ∧ ir < 255
        · rw [dS_lg hd (by omega) hb hg.1 hg.2]
          have := a9 hg.2.1
          exact ⟨by omega, by omega, by omega, by omega, by omega, by omega, by omega, Or.inl rfl, fun _ => by omega⟩
        · rw [dS_lo hd (by omega) hb hg]
          exact ⟨by omega, by omega, by omega, by omega, by omega, by omega, by omega, Or.inl rfl, fun _ => by omega⟩
      · by_cases hg : ¬ la = -1 ∧ nI bn = la + 1 ∧ ir < 255
        · rw [dS_rg hd (by omega) hb (by omega) hg]
          have h9 : ia < k := by
            rcases a8 with z | ⟨z, _⟩
            · exact absurd z hg.1
            · exact a9 z
          exact ⟨by omega, by omega, by omega, by omega, by omega, by omega, by omega, Or.inr ⟨by omega, bn, hbn, rfl⟩, fun _ => h9⟩
        · rw [dS_ro hd (by omega) hb (by omega) hg]
          exact ⟨by omega, by omega, by omega, by omega, by omega, by omega, by omega, Or.inr ⟨by omega, bn, hbn, rfl⟩, fun _ => by omega⟩
def tkV (f : Nat → Int32) (kn bs wd nb : Nat) (sm dg : Nat → Int32) (i : Nat) : Int32 := if tB f kn bs wd nb sm dg (dI f kn bs wd nb sm dg i).1 (dI f kn bs wd nb sm dg i).2.1 = -1 then -1 - f (dI f kn bs wd nb sm dg i).1 else tB f kn bs wd nb sm dg (dI f kn bs wd nb sm dg i).1 (dI f kn bs wd nb sm dg i).2.1
abbrev dA (q : dT) (p : Nat) (la : Int32) (rf lt al : Nat) : Prop := q.1 = p ∧ q.2.1 = la ∧ q.2.2.1 = rf ∧ q.2.2.2.1 = lt ∧ q.2.2.2.2.1 = al
section DT
variable {f : Nat → Int32} {kn bs wd nb : Nat} {sm dg : Nat → Int32} {t p : Nat} {la : Int32} {rf lt al : Nat}
theorem dA_l (h : dA (dI f kn bs wd nb sm dg t) p la rf lt al) (hp : p < kn) (hb : tB f kn bs wd nb sm dg p la = -1) : dA (dI f kn bs wd nb sm dg (t + 1)) (p + 1) (-1) rf (lt + 1) (al + tA f kn bs wd nb sm dg p la) ∧ tkV f kn bs wd nb sm dg t = -1 - f p := by
  rcases hd : dI f kn bs wd nb sm dg t with ⟨p', la', rf', lt', al', k, g, ro, ir, ia⟩
  rw [hd] at h
  obtain ⟨e1, e2, e3, e4, e5⟩ := h
  dsimp only at e1 e2 e3 e4 e5
  subst e1; subst e2; subst e3; subst e4; subst e5
  refine ⟨?_, by rw [tkV, hd, if_pos hb]⟩
  by_cases hg : la' = -1 ∧ 0 < ir ∧ ir < 255
  · rw [dS_lg hd hp hb hg.1 hg.2]; exact ⟨rfl, rfl, rfl, rfl, rfl⟩
  · rw [dS_lo hd hp hb hg]; exact ⟨rfl, rfl, rfl, rfl, rfl⟩
theorem dA_r {bn : Nat} (h : dA (dI f kn bs wd nb sm dg t) p la rf lt al) (hp : p < kn) (hb : tB f kn bs wd nb sm dg p la = nI bn) (hbn : bn ≤ 2000) : dA (dI f kn bs wd nb sm dg (t + 1)) (p + bs) (nI bn) (rf + 1) lt al ∧ tkV f kn bs wd nb sm dg t = nI bn := by
  rcases hd : dI f kn bs wd nb sm dg t with ⟨p', la', rf', lt', al', k, g, ro, ir, ia⟩
  rw [hd] at h
  obtain ⟨e1, e2, e3, e4, e5⟩ := h
  dsimp only at e1 e2 e3 e4 e5
  subst e1; subst e2; subst e3; subst e4; subst e5
  refine ⟨?_, by rw [tkV, hd, if_neg (by dsimp only; rw [hb]; exact m1_ne (by omega)), hb]⟩
  by_cases hg : ¬ la' = -1 ∧ nI bn = la' + 1 ∧ ir < 255
  · rw [dS_rg hd hp hb hbn hg]; exact ⟨rfl, rfl, rfl, rfl, rfl⟩
  · rw [dS_ro hd hp hb hbn hg]; exact ⟨rfl, rfl, rfl, rfl, rfl⟩
end DT
theorem sub_tok (y : Int32) : -1 - (-1 - y) = y := by grind
theorem tok_int {y : Int32} (h : rByte y) : (-1 - y).toInt = -1 - y.toInt := by
  have h1 : (-1 : Int32).toInt = -1 := by decide
  rw [i_sub (by omega) (by omega), h1]
theorem tok_neg {y : Int32} (h : rByte y) : ¬ 0 ≤ -1 - y.toInt := by
  have := h.1
  omega
theorem tok_ne {y : Int32} {m : Nat} (h : rByte y) : ¬ -1 - y.toInt = ((m : Nat) : Int) := by
  have := h.1
  omega
theorem sx_mod {bn : Nat} (h : bn ≤ 4000) : sx (nI bn) = sx (nI (bn % 256)) := by
  exact co_dec (P := fun bn => sx (nI bn) = sx (nI (bn % 256))) (N := 4001) (by decide +kernel) (by omega)
theorem lF_m1 : (-1 : Int32) = lF (-1) := by decide
theorem lF_nI {bn : Nat} (h : bn ≤ 2000) : nI (bn + 1) = lF (nI bn) := by rw [lF, if_neg (m1_ne (by omega)), nI_1]
abbrev eOpen (f : Nat → Int32) (kn bs wd nb : Nat) (sm dg : Nat → Int32) (p : Nat) (la : Int32) (ir : Nat) : Prop := (tB f kn bs wd nb sm dg p la = -1 → ¬ (la = -1 ∧ 0 < ir ∧ ir < 255)) ∧ (¬ tB f kn bs wd nb sm dg p la = -1 → ¬ (¬ la = -1 ∧ tB f kn bs wd nb sm dg p la = la + 1 ∧ ir < 255))
theorem agr_add {E g : Nat → Int32} {k : Nat} {b : Int32} (h : ∀ j, j < k → E j = sx (g j)) (hb : b.toInt8.toInt32 = sx (g k)) : ∀ j, j < k + 1 → upd E k b.toInt8.toInt32 j = sx (g j) := by
  intro j hj
  by_cases e : j = k
  · rw [e, pk_us, hb]
  · rw [pk_un e, h j (by omega)]
set_option maxHeartbeats 4000000 in
set_option maxRecDepth 100000 in
theorem m_delta (l : Launch) (D : va_G) (cI cB : ClassId) (m0 : Nat) (yb : Nat) (yz : Nat) (ye : Nat) (ys : Nat) (yg : Nat) (yf : Nat) (yh : Nat) (yw : Nat) (yn : Nat) (yt : Nat) (yl : Nat) (dz : Nat) (sz : Nat) (wz : Nat) (bz : Nat) (uS : Nat) (uW : Nat) (mr : Nat) (ml : Nat) (mw : Nat) (ma : Nat) (tz : Nat) (B : Nat → Int32) (S : Nat → Int32) (G : Nat → Int32) (F : Nat → Int32) (V : Nat → Int32) (H : Nat → Int32) (KN : Nat → Int32) (KT : Nat → Int32) (f : Nat → Int32) (E : Nat → Int32) (T0 : Nat → Int32) (ko : Nat) (kn : Nat) (kr : Nat) (hn : kn ≤ 2000) (hz : bz ≤ 2000) (hw : uW ≤ 16) (hu : uS ≤ 256) (hu1 : 1 ≤ uS) (hBy : ∀ j, j < kn → (B (2000 + j) &&& 255) = f j) (hby : ∀ j, j < kn → rByte (f j)) (hKN : ∀ j, j < 64 → KN j = kSin j) (hKT : ∀ j, j < 16 → KT j = kTrn j) : kC l yX5_delta cX5_delta 7 (some .int) 3 83 (0) (0) D cI cB [.ref m0] [(m0, .inr (5, [.ref yb, .ref yz, .ref ye, .int (nI dz), .int (nI sz), .int (nI wz), .int (nI bz), .int (nI uS), .int (nI uW), .ref ys, .ref yg, .int (nI mr), .int (nI ml), .int (nI mw), .int (nI ma), .ref yf, .ref yh, .ref yw, .ref yn, .ref yt, .ref yl, .int (nI tz)])), (yb, .inl (cB, 6000, .inl B)), (yz, .inl (cI, 3, .inl (zf ko kn kr))), (ys, .inl (cI, 2000, .inl S)), (yg, .inl (cB, 32000, .inl G)), (yf, .inl (cB, 2112, .inl F)), (yw, .inl (cI, 16, .inl V)), (yh, .inl (cI, 4, .inl H)), (yn, .inl (cI, 64, .inl KN)), (yt, .inl (cI, 16, .inl KT)), (ye, .inl (cB, 8100, .inl E)), (yl, .inl (cI, 2000, .inl T0))] (fun (vV : Option Value) (uU : va_W) => ∃ (tt9 : Nat) (E9 : Nat → Int32) (T9 : Nat → Int32) (F9 : Nat → Int32) (V9 : Nat → Int32) (H9 : Nat → Int32), vV = some (.int (nI ((dI f kn uS uW bz S G kn).2.2.2.2.2.1))) ∧ uU = [(m0, .inr (5, [.ref yb, .ref yz, .ref ye, .int (nI ((dI f kn uS uW bz S G kn).2.2.2.2.2.1)), .int (nI sz), .int (nI wz), .int (nI bz), .int (nI uS), .int (nI uW), .ref ys, .ref yg, .int (nI ((dI f kn uS uW bz S G kn).2.2.1)), .int (nI ((dI f kn uS uW bz S G kn).2.2.2.1)), .int (nI ((dI f kn uS uW bz S G kn).2.2.2.2.2.2.2.1)), .int (nI ((dI f kn uS uW bz S G kn).2.2.2.2.1)), .ref yf, .ref yh, .ref yw, .ref yn, .ref yt, .ref yl, .int (nI tt9)])), (yb, .inl (cB, 6000, .inl B)), (yz, .inl (cI, 3, .inl (zf ko kn kr))), (ys, .inl (cI, 2000, .inl S)), (yg, .inl (cB, 32000, .inl G)), (yf, .inl (cB, 2112, .inl F9)), (yw, .inl (cI, 16, .inl V9)), (yh, .inl (cI, 4, .inl H9)), (yn, .inl (cI, 64, .inl KN)), (yt, .inl (cI, 16, .inl KT)), (ye, .inl (cB, 8100, .inl E9)), (yl, .inl (cI, 2000, .inl T9))] ∧ (∀ j, j < (dI f kn uS uW bz S G kn).2.2.2.2.2.1 → E9 j = sx ((dI f kn uS uW bz S G kn).2.2.2.2.2.2.1 j))) := by
  refine k_entry (lv0 := [(0, .ref m0)]) (by decide) (Nat.le_of_ble_eq_true rfl) rfl ?_
  intro zp ze zs zm zb zt zc zA X hr hin
  refine k_aload_n X dX5_delta_0 rfl 0 rfl ?_
  refine k_iconst (v := 0) X dX5_delta_1 (by decide) ?_
  refine k_put (v := .int 0) (ty := .int) (ws' := [(m0, .inr (5, [.ref yb, .ref yz, .ref ye, .int (nI dz), .int (nI sz), .int (nI wz), .int (nI bz), .int (nI uS), .int (nI uW), .ref ys, .ref yg, .int 0, .int (nI ml), .int (nI mw), .int (nI ma), .ref yf, .ref yh, .ref yw, .ref yn, .ref yt, .ref yl, .int (nI tz)])), (yb, .inl (cB, 6000, .inl B)), (yz, .inl (cI, 3, .inl (zf ko kn kr))), (ys, .inl (cI, 2000, .inl S)), (yg, .inl (cB, 32000, .inl G)), (yf, .inl (cB, 2112, .inl F)), (yw, .inl (cI, 16, .inl V)), (yh, .inl (cI, 4, .inl H)), (yn, .inl (cI, 64, .inl KN)), (yt, .inl (cI, 16, .inl KT)), (ye, .inl (cB, 8100, .inl E)), (yl, .inl (cI, 2000, .inl T0))]) X 0 5 11 tyX5 tyX5_ok nmX5 rfl rfl (by decide) fl_X5_160 in_X5 rfl rfl (by decide +kernel) rfl rfl (Nat.le_of_ble_eq_true rfl) rfl dX5_delta_2 ?_
  refine k_aload_n X dX5_delta_5 rfl 0 rfl ?_
  refine k_iconst (v := 0) X dX5_delta_6 (by decide) ?_
  refine k_put (v := .int 0) (ty := .int) (ws' := [(m0, .inr (5, [.ref yb, .ref yz, .ref ye, .int (nI dz), .int (nI sz), .int (nI wz), .int (nI bz), .int (nI uS), .int (nI uW), .ref ys, .ref yg, .int 0, .int 0, .int (nI mw), .int (nI ma), .ref yf, .ref yh, .ref yw, .ref yn, .ref yt, .ref yl, .int (nI tz)])), (yb, .inl (cB, 6000, .inl B)), (yz, .inl (cI, 3, .inl (zf ko kn kr))), (ys, .inl (cI, 2000, .inl S)), (yg, .inl (cB, 32000, .inl G)), (yf, .inl (cB, 2112, .inl F)), (yw, .inl (cI, 16, .inl V)), (yh, .inl (cI, 4, .inl H)), (yn, .inl (cI, 64, .inl KN)), (yt, .inl (cI, 16, .inl KT)), (ye, .inl (cB, 8100, .inl E)), (yl, .inl (cI, 2000, .inl T0))]) X 0 5 12 tyX5 tyX5_ok nmX5 rfl rfl (by decide) fl_X5_163 in_X5 rfl rfl (by decide +kernel) rfl rfl (Nat.le_of_ble_eq_true rfl) rfl dX5_delta_7 ?_
  refine k_aload_n X dX5_delta_10 rfl 0 rfl ?_
  refine k_iconst (v := 0) X dX5_delta_11 (by decide) ?_
  refine k_put (v := .int 0) (ty := .int) (ws' := [(m0, .inr (5, [.ref yb, .ref yz, .ref ye, .int (nI dz), .int (nI sz), .int (nI wz), .int (nI bz), .int (nI uS), .int (nI uW), .ref ys, .ref yg, .int 0, .int 0, .int 0, .int (nI ma), .ref yf, .ref yh, .ref yw, .ref yn, .ref yt, .ref yl, .int (nI tz)])), (yb, .inl (cB, 6000, .inl B)), (yz, .inl (cI, 3, .inl (zf ko kn kr))), (ys, .inl (cI, 2000, .inl S)), (yg, .inl (cB, 32000, .inl G)), (yf, .inl (cB, 2112, .inl F)), (yw, .inl (cI, 16, .inl V)), (yh, .inl (cI, 4, .inl H)), (yn, .inl (cI, 64, .inl KN)), (yt, .inl (cI, 16, .inl KT)), (ye, .inl (cB, 8100, .inl E)), (yl, .inl (cI, 2000, .inl T0))]) X 0 5 13 tyX5 tyX5_ok nmX5 rfl rfl (by decide) fl_X5_166 in_X5 rfl rfl (by decide +kernel) rfl rfl (Nat.le_of_ble_eq_true rfl) rfl dX5_delta_12 ?_
  refine k_aload_n X dX5_delta_15 rfl 0 rfl ?_
  refine k_iconst (v := 0) X dX5_delta_16 (by decide) ?_
  refine k_put (v := .int 0) (ty := .int) (ws' := [(m0, .inr (5, [.ref yb, .ref yz, .ref ye, .int (nI dz), .int (nI sz), .int (nI wz), .int (nI bz), .int (nI uS), .int (nI uW), .ref ys, .ref yg, .int 0, .int 0, .int 0, .int 0, .ref yf, .ref yh, .ref yw, .ref yn, .ref yt, .ref yl, .int (nI tz)])), (yb, .inl (cB, 6000, .inl B)), (yz, .inl (cI, 3, .inl (zf ko kn kr))), (ys, .inl (cI, 2000, .inl S)), (yg, .inl (cB, 32000, .inl G)), (yf, .inl (cB, 2112, .inl F)), (yw, .inl (cI, 16, .inl V)), (yh, .inl (cI, 4, .inl H)), (yn, .inl (cI, 64, .inl KN)), (yt, .inl (cI, 16, .inl KT)), (ye, .inl (cB, 8100, .inl E)), (yl, .inl (cI, 2000, .inl T0))]) X 0 5 14 tyX5 tyX5_ok nmX5 rfl rfl (by decide) fl_X5_154 in_X5 rfl rfl (by decide +kernel) rfl rfl (Nat.le_of_ble_eq_true rfl) rfl dX5_delta_17 ?_
  refine k_aload_n X dX5_delta_20 rfl 0 rfl ?_
  refine k_iconst (v := 0) X dX5_delta_21 (by decide) ?_
  refine k_put (v := .int 0) (ty := .int) (ws' := [(m0, .inr (5, [.ref yb, .ref yz, .ref ye, .int (nI dz), .int (nI sz), .int (nI wz), .int (nI bz), .int (nI uS), .int (nI uW), .ref ys, .ref yg, .int 0, .int 0, .int 0, .int 0, .ref yf, .ref yh, .ref yw, .ref yn, .ref yt, .ref yl, .int 0])), (yb, .inl (cB, 6000, .inl B)), (yz, .inl (cI, 3, .inl (zf ko kn kr))), (ys, .inl (cI, 2000, .inl S)), (yg, .inl (cB, 32000, .inl G)), (yf, .inl (cB, 2112, .inl F)), (yw, .inl (cI, 16, .inl V)), (yh, .inl (cI, 4, .inl H)), (yn, .inl (cI, 64, .inl KN)), (yt, .inl (cI, 16, .inl KT)), (ye, .inl (cB, 8100, .inl E)), (yl, .inl (cI, 2000, .inl T0))]) X 0 5 21 tyX5 tyX5_ok nmX5 rfl rfl (by decide) fl_X5_169 in_X5 rfl rfl (by decide +kernel) rfl rfl (Nat.le_of_ble_eq_true rfl) rfl dX5_delta_22 ?_
  refine k_iconst (v := 0) X dX5_delta_25 (by decide) ?_
  refine k_istore_n (lv' := [(1, .int 0), (0, .ref m0)]) X dX5_delta_26 rfl (by decide) rfl ?_
  refine k_iconst (v := -1) X dX5_delta_27 (by decide) ?_
  refine k_as (y := lF (-1)) (lF_m1) ?_
  refine k_istore_n (lv' := [(2, .int (lF (-1))), (1, .int 0), (0, .ref m0)]) X dX5_delta_28 rfl (by decide) rfl ?_
  refine k_lv (lv' := [(0, .ref m0), (1, .int (nI 0)), (2, .int (lF (-1)))]) [2, 1, 0] rfl ?_
  refine k_sub (ws' := [(m0, .inr (5, [.ref yb, .ref yz, .ref ye, .int (nI dz), .int (nI sz), .int (nI wz), .int (nI bz), .int (nI uS), .int (nI uW), .ref ys, .ref yg, .int (nI 0), .int (nI 0), .int (nI 0), .int (nI 0), .ref yf, .ref yh, .ref yw, .ref yn, .ref yt, .ref yl, .int (nI 0)])), (yb, .inl (cB, 6000, .inl B)), (yz, .inl (cI, 3, .inl (zf ko kn kr))), (ys, .inl (cI, 2000, .inl S)), (yg, .inl (cB, 32000, .inl G)), (yf, .inl (cB, 2112, .inl F)), (yw, .inl (cI, 16, .inl V)), (yh, .inl (cI, 4, .inl H)), (yn, .inl (cI, 64, .inl KN)), (yt, .inl (cI, 16, .inl KT)), (ye, .inl (cB, 8100, .inl E)), (yl, .inl (cI, 2000, .inl T0))]) [0, 1, 2, 3, 4, 5, 6, 7, 8, 9, 10, 11] (by decide) rfl rfl ?_
  refine k_wide (k := 0) (n := 0) (by (try dsimp only); omega) (by (try dsimp only); omega) ?_
  refine k_loop10 (pc1 := 29) (cl := fun (t : Nat) (p : Nat) (la : Int32) (rf : Nat) (lt : Nat) (al : Nat) (Tt : Nat → Int32) (F1 : Nat → Int32) (V1 : Nat → Int32) (H1 : Nat → Int32) => 0) (sl := fun (t : Nat) (p : Nat) (la : Int32) (rf : Nat) (lt : Nat) (al : Nat) (Tt : Nat → Int32) (F1 : Nat → Int32) (V1 : Nat → Int32) (H1 : Nat → Int32) => 0) (wsf := fun (t : Nat) (p : Nat) (la : Int32) (rf : Nat) (lt : Nat) (al : Nat) (Tt : Nat → Int32) (F1 : Nat → Int32) (V1 : Nat → Int32) (H1 : Nat → Int32) => [(m0, .inr (5, [.ref yb, .ref yz, .ref ye, .int (nI dz), .int (nI sz), .int (nI wz), .int (nI bz), .int (nI uS), .int (nI uW), .ref ys, .ref yg, .int (nI rf), .int (nI lt), .int (nI 0), .int (nI al), .ref yf, .ref yh, .ref yw, .ref yn, .ref yt, .ref yl, .int (nI t)])), (yb, .inl (cB, 6000, .inl B)), (yz, .inl (cI, 3, .inl (zf ko kn kr))), (ys, .inl (cI, 2000, .inl S)), (yg, .inl (cB, 32000, .inl G)), (yf, .inl (cB, 2112, .inl F1)), (yw, .inl (cI, 16, .inl V1)), (yh, .inl (cI, 4, .inl H1)), (yn, .inl (cI, 64, .inl KN)), (yt, .inl (cI, 16, .inl KT)), (ye, .inl (cB, 8100, .inl E)), (yl, .inl (cI, 2000, .inl Tt))]) (lvf := fun (t : Nat) (p : Nat) (la : Int32) (rf : Nat) (lt : Nat) (al : Nat) (Tt : Nat → Int32) (F1 : Nat → Int32) (V1 : Nat → Int32) (H1 : Nat → Int32) => [(0, .ref m0), (1, .int (nI p)), (2, .int (lF la))]) (stf := fun (t : Nat) (p : Nat) (la : Int32) (rf : Nat) (lt : Nat) (al : Nat) (Tt : Nat → Int32) (F1 : Nat → Int32) (V1 : Nat → Int32) (H1 : Nat → Int32) => []) (I := fun (t : Nat) (p : Nat) (la : Int32) (rf : Nat) (lt : Nat) (al : Nat) (Tt : Nat → Int32) (F1 : Nat → Int32) (V1 : Nat → Int32) (H1 : Nat → Int32) => dA (dI f kn uS uW bz S G t) p la rf lt al ∧ t ≤ p ∧ (∀ i, i < t → Tt i = tkV f kn uS uW bz S G i) ∧ ∀ i, i < t → (dI f kn uS uW bz S G i).1 < kn) (mu := fun (t : Nat) (p : Nat) (la : Int32) (rf : Nat) (lt : Nat) (al : Nat) (Tt : Nat → Int32) (F1 : Nat → Int32) (V1 : Nat → Int32) (H1 : Nat → Int32) => kn - p) ?_ 0 0 (-1) 0 0 0 T0 F V H (⟨⟨rfl, rfl, rfl, rfl, rfl⟩, Nat.le_refl _, fun i h => absurd h (Nat.not_lt_zero i), fun i h => absurd h (Nat.not_lt_zero i)⟩)
  intro t p la rf lt al Tt F1 V1 H1 hI ih
  try dsimp only at hI ih
  try dsimp only
  have hok := dI_ok f kn uS uW bz S G hu1 hz t
  have hbd : p ≤ kn ∧ rf ≤ p ∧ lt ≤ p ∧ al ≤ p := by
    rcases hd : dI f kn uS uW bz S G t with ⟨p9, la9, rf9, lt9, al9, k9, g9, ro9, ir9, ia9⟩
    have hA := hI.1
    rw [hd] at hok hA
    obtain ⟨e1, e2, e3, e4, e5⟩ := hA
    dsimp only at e1 e2 e3 e4 e5
    obtain ⟨a1, a2, a3, a4, a5, a6, _⟩ := hok
    omega
  have htp := hI.2.1
  refine k_iload_n X dX5_delta_29 rfl 1 rfl ?_
  refine k_aload_n X dX5_delta_30 rfl 0 rfl ?_
  refine k_get (v := .ref yz) X 0 5 1 rfl rfl (by decide) fl_X5_13 in_X5 rfl rfl dX5_delta_31 ?_
  refine k_iconst (v := 1) X dX5_delta_34 (by decide) ?_
  refine k_iald (v := (zf ko kn kr) 1) X 2 rfl (vp_in_nI (n := 1) (by omega) (by omega)) (by rw [show ((1 : Int32).toNatClampNeg) = 1 from rfl]) dX5_delta_35 ?_
  refine k_as (y := nI kn) (rfl) ?_
  refine k_icmp_ge (tgt := 160) (xi := ((p : Nat) : Int)) (yi := ((kn : Nat) : Int)) X (nI_toInt (by omega)) (nI_toInt (by omega)) dX5_delta_36 (by decide) (fun c_36 => ?_) (fun c_36 => ?_)
  · have hTk := hI.2.2.1
    have hlv := hI.2.2.2
    have hpe : kn ≤ p := by omega
    have hfin : dI f kn uS uW bz S G kn = dI f kn uS uW bz S G t := by
      have h9 := dI_stop (f := f) (kn := kn) (bs := uS) (wd := uW) (nb := bz) (sm := S) (dg := G) (t := t) (by rw [hI.1.1]; exact hpe) (kn - t)
      rw [show t + (kn - t) = kn by omega] at h9
      exact h9
    have hA0 := hI.1
    clear hI ih
    obtain ⟨tt, hz0⟩ : ∃ z : Nat, z = t := ⟨_, rfl⟩
    subst hz0
    obtain ⟨pT, hz0⟩ : ∃ z : Nat, z = p := ⟨_, rfl⟩
    subst hz0
    obtain ⟨laT, hz0⟩ : ∃ z : Int32, z = la := ⟨_, rfl⟩
    subst hz0
    obtain ⟨rT, hz0⟩ : ∃ z : Nat, z = rf := ⟨_, rfl⟩
    subst hz0
    obtain ⟨lT, hz0⟩ : ∃ z : Nat, z = lt := ⟨_, rfl⟩
    subst hz0
    obtain ⟨aT_, hz0⟩ : ∃ z : Nat, z = al := ⟨_, rfl⟩
    subst hz0
    refine k_aload_n X dX5_delta_160 rfl 0 rfl ?_
    refine k_iconst (v := 0) X dX5_delta_161 (by decide) ?_
    refine k_put (v := .int 0) (ty := .int) (ws' := [(m0, .inr (5, [.ref yb, .ref yz, .ref ye, .int 0, .int (nI sz), .int (nI wz), .int (nI bz), .int (nI uS), .int (nI uW), .ref ys, .ref yg, .int (nI rT), .int (nI lT), .int (nI 0), .int (nI aT_), .ref yf, .ref yh, .ref yw, .ref yn, .ref yt, .ref yl, .int (nI tt)])), (yb, .inl (cB, 6000, .inl B)), (yz, .inl (cI, 3, .inl (zf ko kn kr))), (ys, .inl (cI, 2000, .inl S)), (yg, .inl (cB, 32000, .inl G)), (yf, .inl (cB, 2112, .inl F1)), (yw, .inl (cI, 16, .inl V1)), (yh, .inl (cI, 4, .inl H1)), (yn, .inl (cI, 64, .inl KN)), (yt, .inl (cI, 16, .inl KT)), (ye, .inl (cB, 8100, .inl E)), (yl, .inl (cI, 2000, .inl Tt))]) X 0 5 3 tyX5 tyX5_ok nmX5 rfl rfl (by decide) fl_X5_157 in_X5 rfl rfl (by decide +kernel) rfl rfl (Nat.le_of_ble_eq_true rfl) rfl dX5_delta_162 ?_
    refine k_iconst (v := 0) X dX5_delta_165 (by decide) ?_
    refine k_istore_n (lv' := [(3, .int 0), (0, .ref m0), (1, .int (nI pT)), (2, .int (lF laT))]) X dX5_delta_166 rfl (by decide) rfl ?_
    refine k_lv (lv' := [(0, .ref m0), (3, .int (nI 0))]) [1, 0] rfl ?_
    refine k_sub (ws' := [(m0, .inr (5, [.ref yb, .ref yz, .ref ye, .int (nI 0), .int (nI sz), .int (nI wz), .int (nI bz), .int (nI uS), .int (nI uW), .ref ys, .ref yg, .int (nI rT), .int (nI lT), .int (nI 0), .int (nI aT_), .ref yf, .ref yh, .ref yw, .ref yn, .ref yt, .ref yl, .int (nI tt)])), (yb, .inl (cB, 6000, .inl B)), (yz, .inl (cI, 3, .inl (zf ko kn kr))), (ys, .inl (cI, 2000, .inl S)), (yg, .inl (cB, 32000, .inl G)), (yf, .inl (cB, 2112, .inl F1)), (yw, .inl (cI, 16, .inl V1)), (yh, .inl (cI, 4, .inl H1)), (yn, .inl (cI, 64, .inl KN)), (yt, .inl (cI, 16, .inl KT)), (ye, .inl (cB, 8100, .inl E)), (yl, .inl (cI, 2000, .inl Tt))]) [0, 1, 2, 3, 4, 5, 6, 7, 8, 9, 10, 11] (by decide) rfl rfl ?_
    refine k_wide (k := 0) (n := 0) (by (try dsimp only); omega) (by (try dsimp only); omega) ?_
    refine k_loop12 (pc1 := 167) (cl := fun (t : Nat) (p : Nat) (la : Int32) (rf : Nat) (lt : Nat) (al : Nat) (k : Nat) (g : Nat → Int32) (ro : Nat) (ir : Nat) (ia : Nat) (E1 : Nat → Int32) => 0) (sl := fun (t : Nat) (p : Nat) (la : Int32) (rf : Nat) (lt : Nat) (al : Nat) (k : Nat) (g : Nat → Int32) (ro : Nat) (ir : Nat) (ia : Nat) (E1 : Nat → Int32) => 0) (wsf := fun (t : Nat) (p : Nat) (la : Int32) (rf : Nat) (lt : Nat) (al : Nat) (k : Nat) (g : Nat → Int32) (ro : Nat) (ir : Nat) (ia : Nat) (E1 : Nat → Int32) => [(m0, .inr (5, [.ref yb, .ref yz, .ref ye, .int (nI k), .int (nI sz), .int (nI wz), .int (nI bz), .int (nI uS), .int (nI uW), .ref ys, .ref yg, .int (nI rT), .int (nI lT), .int (nI ro), .int (nI aT_), .ref yf, .ref yh, .ref yw, .ref yn, .ref yt, .ref yl, .int (nI tt)])), (yb, .inl (cB, 6000, .inl B)), (yz, .inl (cI, 3, .inl (zf ko kn kr))), (ys, .inl (cI, 2000, .inl S)), (yg, .inl (cB, 32000, .inl G)), (yf, .inl (cB, 2112, .inl F1)), (yw, .inl (cI, 16, .inl V1)), (yh, .inl (cI, 4, .inl H1)), (yn, .inl (cI, 64, .inl KN)), (yt, .inl (cI, 16, .inl KT)), (ye, .inl (cB, 8100, .inl E1)), (yl, .inl (cI, 2000, .inl Tt))]) (lvf := fun (t : Nat) (p : Nat) (la : Int32) (rf : Nat) (lt : Nat) (al : Nat) (k : Nat) (g : Nat → Int32) (ro : Nat) (ir : Nat) (ia : Nat) (E1 : Nat → Int32) => [(0, .ref m0), (3, .int (nI t))]) (stf := fun (t : Nat) (p : Nat) (la : Int32) (rf : Nat) (lt : Nat) (al : Nat) (k : Nat) (g : Nat → Int32) (ro : Nat) (ir : Nat) (ia : Nat) (E1 : Nat → Int32) => []) (I := fun (t : Nat) (p : Nat) (la : Int32) (rf : Nat) (lt : Nat) (al : Nat) (k : Nat) (g : Nat → Int32) (ro : Nat) (ir : Nat) (ia : Nat) (E1 : Nat → Int32) => dI f kn uS uW bz S G t = (p, la, rf, lt, al, k, g, ro, ir, ia) ∧ t ≤ tt ∧ (∀ j, j < k → E1 j = sx (g j)) ∧ (t < tt → eOpen f kn uS uW bz S G p la ir)) (mu := fun (t : Nat) (p : Nat) (la : Int32) (rf : Nat) (lt : Nat) (al : Nat) (k : Nat) (g : Nat → Int32) (ro : Nat) (ir : Nat) (ia : Nat) (E1 : Nat → Int32) => tt - t) ?_ 0 0 (-1) 0 0 0 0 (fun _ => 0) 0 0 0 E (⟨rfl, Nat.zero_le _, fun j h => absurd h (Nat.not_lt_zero j), fun _ => ⟨fun _ z => absurd z.2.1 (by omega), fun _ z => z.1 rfl⟩⟩)
    intro t p la rf lt al k g ro ir ia E1 hK kh
    try dsimp only at hK kh
    try dsimp only
    obtain ⟨hdi, htt, hE1, hop⟩ := hK
    have hok := dI_ok f kn uS uW bz S G hu1 hz t
    rw [hdi] at hok
    obtain ⟨a1, a2, a3, a4, a5, a6, a7, a8, a9⟩ := hok
    refine k_iload_n X dX5_delta_167 rfl 1 rfl ?_
    refine k_aload_n X dX5_delta_168 rfl 0 rfl ?_
    refine k_get (v := .int (nI tt)) X 0 5 21 rfl rfl (by decide) fl_X5_169 in_X5 rfl rfl dX5_delta_169 ?_
    refine k_icmp_ge (tgt := 362) (xi := ((t : Nat) : Int)) (yi := ((tt : Nat) : Int)) X (nI_toInt (by omega)) (nI_toInt (by omega)) dX5_delta_172 (by decide) (fun c_172 => ?_) (fun c_172 => ?_)
    · refine k_aload_n X dX5_delta_362 rfl 0 rfl ?_
      refine k_get (v := .int (nI k)) X 0 5 3 rfl rfl (by decide) fl_X5_157 in_X5 rfl rfl dX5_delta_363 ?_
      have ett : tt = t := by omega
      subst ett
      have hf2 : dI f kn uS uW bz S G kn = (p, la, rf, lt, al, k, g, ro, ir, ia) := hfin.trans hdi
      have hA9 := hA0
      rw [hdi] at hA9
      obtain ⟨z1, z2, z3, z4, z5⟩ := hA9
      dsimp only at z1 z2 z3 z4 z5
      exact k_iret (u := [(m0, .inr (5, [.ref yb, .ref yz, .ref ye, .int (nI k), .int (nI sz), .int (nI wz), .int (nI bz), .int (nI uS), .int (nI uW), .ref ys, .ref yg, .int (nI rT), .int (nI lT), .int (nI ro), .int (nI aT_), .ref yf, .ref yh, .ref yw, .ref yn, .ref yt, .ref yl, .int (nI tt)])), (yb, .inl (cB, 6000, .inl B)), (yz, .inl (cI, 3, .inl (zf ko kn kr))), (ys, .inl (cI, 2000, .inl S)), (yg, .inl (cB, 32000, .inl G)), (yf, .inl (cB, 2112, .inl F1)), (yw, .inl (cI, 16, .inl V1)), (yh, .inl (cI, 4, .inl H1)), (yn, .inl (cI, 64, .inl KN)), (yt, .inl (cI, 16, .inl KT)), (ye, .inl (cB, 8100, .inl E1)), (yl, .inl (cI, 2000, .inl Tt))]) X hr [0, 1, 2, 3, 4, 5, 6, 7, 8, 9, 10, 11] (by decide) rfl rfl (⟨tt, E1, Tt, F1, V1, H1, by rw [hf2], by rw [hf2, ← z3, ← z4, ← z5], by rw [hf2]; exact hE1⟩) (by (try dsimp only); omega) (by (try dsimp only); omega) dX5_delta_366
    · refine k_iconst (v := 1) X dX5_delta_175 (by decide) ?_
      refine k_istore (lv' := [(4, .int 1), (0, .ref m0), (3, .int (nI t))]) X dX5_delta_176 (by decide) rfl ?_
      refine k_aload_n X dX5_delta_178 rfl 1 rfl ?_
      refine k_get (v := .ref yl) X 0 5 20 rfl rfl (by decide) fl_X5_118 in_X5 rfl rfl dX5_delta_179 ?_
      refine k_iload_n X dX5_delta_182 rfl 2 rfl ?_
      refine k_iald (v := Tt t) X 11 rfl (vp_in_nI (n := t) (by omega) (by omega)) (by rw [nI_clamp (n := t) (by omega)]) dX5_delta_183 ?_
      have hlive : p < kn := by have := hlv t (by omega); rw [hdi] at this; exact this
      have htv := hTk t (by omega)
      rcases tB_cases f kn uS uW bz S G p la with htB | ⟨hpb, bn, hbn, htB⟩
      · have hT0 : Tt t = -1 - f p := by rw [htv, tkV, hdi, if_pos htB]
        refine k_as (y := -1 - f p) (hT0) ?_
        have hbp := hby p hlive
        have hti := tok_int hbp
        have hdn := dS_lo hdi hlive htB ((hop (by omega)).1 htB)
        refine k_if_ge (tgt := 191) (xi := -1 - (f p).toInt) X (hti) dX5_delta_184 (by decide) (fun c_184 => ?_) (fun c_184 => ?_)
        · exact absurd c_184 (tok_neg hbp)
        · refine k_iconst (v := 1) X dX5_delta_187 (by decide) ?_
          refine k_goto (tgt := 192) X dX5_delta_188 (by decide) ?_
          refine k_istore (lv' := [(5, .int 1), (4, .int 1), (0, .ref m0), (3, .int (nI t))]) X dX5_delta_192 (by decide) rfl ?_
          refine k_lv (lv' := [(0, .ref m0), (3, .int (nI t)), (4, .int (nI 1)), (5, .int 1)]) [2, 3, 1, 0] rfl ?_
          refine k_sub (ws' := [(m0, .inr (5, [.ref yb, .ref yz, .ref ye, .int (nI k), .int (nI sz), .int (nI wz), .int (nI bz), .int (nI uS), .int (nI uW), .ref ys, .ref yg, .int (nI rT), .int (nI lT), .int (nI ro), .int (nI aT_), .ref yf, .ref yh, .ref yw, .ref yn, .ref yt, .ref yl, .int (nI tt)])), (yb, .inl (cB, 6000, .inl B)), (yz, .inl (cI, 3, .inl (zf ko kn kr))), (ys, .inl (cI, 2000, .inl S)), (yg, .inl (cB, 32000, .inl G)), (yf, .inl (cB, 2112, .inl F1)), (yw, .inl (cI, 16, .inl V1)), (yh, .inl (cI, 4, .inl H1)), (yn, .inl (cI, 64, .inl KN)), (yt, .inl (cI, 16, .inl KT)), (ye, .inl (cB, 8100, .inl E1)), (yl, .inl (cI, 2000, .inl Tt))]) [0, 1, 2, 3, 4, 5, 6, 7, 8, 9, 10, 11] (by decide) rfl rfl ?_
          refine k_wide (k := 0) (n := 0) (by (try dsimp only); omega) (by (try dsimp only); omega) ?_
          refine k_loop6 (pc1 := 194) (cl := fun (n : Nat) (p2 : Nat) (rf2 : Nat) (lt2 : Nat) (al2 : Nat) (g2 : Nat → Int32) => 0) (sl := fun (n : Nat) (p2 : Nat) (rf2 : Nat) (lt2 : Nat) (al2 : Nat) (g2 : Nat → Int32) => 0) (wsf := fun (n : Nat) (p2 : Nat) (rf2 : Nat) (lt2 : Nat) (al2 : Nat) (g2 : Nat → Int32) => [(m0, .inr (5, [.ref yb, .ref yz, .ref ye, .int (nI k), .int (nI sz), .int (nI wz), .int (nI bz), .int (nI uS), .int (nI uW), .ref ys, .ref yg, .int (nI rT), .int (nI lT), .int (nI ro), .int (nI aT_), .ref yf, .ref yh, .ref yw, .ref yn, .ref yt, .ref yl, .int (nI tt)])), (yb, .inl (cB, 6000, .inl B)), (yz, .inl (cI, 3, .inl (zf ko kn kr))), (ys, .inl (cI, 2000, .inl S)), (yg, .inl (cB, 32000, .inl G)), (yf, .inl (cB, 2112, .inl F1)), (yw, .inl (cI, 16, .inl V1)), (yh, .inl (cI, 4, .inl H1)), (yn, .inl (cI, 64, .inl KN)), (yt, .inl (cI, 16, .inl KT)), (ye, .inl (cB, 8100, .inl E1)), (yl, .inl (cI, 2000, .inl Tt))]) (lvf := fun (n : Nat) (p2 : Nat) (rf2 : Nat) (lt2 : Nat) (al2 : Nat) (g2 : Nat → Int32) => [(0, .ref m0), (3, .int (nI t)), (4, .int (nI n)), (5, .int 1)]) (stf := fun (n : Nat) (p2 : Nat) (rf2 : Nat) (lt2 : Nat) (al2 : Nat) (g2 : Nat → Int32) => []) (I := fun (n : Nat) (p2 : Nat) (rf2 : Nat) (lt2 : Nat) (al2 : Nat) (g2 : Nat → Int32) => 1 ≤ n ∧ n ≤ 255 ∧ t + n ≤ tt ∧ dI f kn uS uW bz S G (t + n) = (p2, -1, rf2, lt2, al2, k + 2 + n, g2, ro + 1, n, k + 1) ∧ (∀ j, j < k → g2 j = g j) ∧ g2 k = 0 ∧ g2 (k + 1) = nI n ∧ ∀ i, i < n → g2 (k + 2 + i) = -1 - Tt (t + i)) (mu := fun (n : Nat) (p2 : Nat) (rf2 : Nat) (lt2 : Nat) (al2 : Nat) (g2 : Nat → Int32) => 255 - n) ?_ 1 (p + 1) rf (lt + 1) (al + tA f kn uS uW bz S G p la) (litOpen k g (f p)) (⟨by omega, by omega, by omega, hdn, fun j hj => by unfold litOpen; rw [pk_un (by omega), pk_un (by omega), pk_un (by omega)], by unfold litOpen; rw [pk_un (by omega), pk_un (by omega), pk_us], by unfold litOpen; rw [pk_un (by omega), pk_us]; rfl, fun i hi => by rw [show i = 0 by omega]; show litOpen k g (f p) (k + 2) = -1 - Tt t; rw [hT0, sub_tok, litOpen, pk_us]⟩)
          intro n p2 rf2 lt2 al2 g2 hL lh
          try dsimp only at hL lh
          try dsimp only
          have hn1 := hL.1; have hn255 := hL.2.1; have htn := hL.2.2.1
          have hdi2 := hL.2.2.2.1
          have hok2 := dI_ok f kn uS uW bz S G hu1 hz (t + n)
          rw [hdi2] at hok2
          obtain ⟨b1, b2, b3, b4, b5, b6, b7, b8, b9⟩ := hok2
          refine k_iload X dX5_delta_194 2 rfl ?_
          refine k_sipush (v := 255) X dX5_delta_196 (by decide) ?_
          refine k_icmp_ge (tgt := 260) (xi := ((n : Nat) : Int)) (yi := (255 : Int)) X (nI_toInt (by omega)) (by decide) dX5_delta_199 (by decide) (fun c_199 => ?_) (fun c_199 => ?_)
          · refine k_aload_n X dX5_delta_260 rfl 0 rfl ?_
            refine k_dup X dX5_delta_261 rfl ?_
            refine k_get (v := .int (nI ro)) X 0 5 13 rfl rfl (by decide) fl_X5_166 in_X5 rfl rfl dX5_delta_262 ?_
            refine k_iconst (v := 1) X dX5_delta_265 (by decide) ?_
            refine k_iadd X dX5_delta_266 ?_
            refine k_as (y := nI (ro + 1)) (nI_1 _) ?_
            refine k_put (v := .int (nI (ro + 1))) (ty := .int) (ws' := [(m0, .inr (5, [.ref yb, .ref yz, .ref ye, .int (nI k), .int (nI sz), .int (nI wz), .int (nI bz), .int (nI uS), .int (nI uW), .ref ys, .ref yg, .int (nI rT), .int (nI lT), .int (nI (ro + 1)), .int (nI aT_), .ref yf, .ref yh, .ref yw, .ref yn, .ref yt, .ref yl, .int (nI tt)])), (yb, .inl (cB, 6000, .inl B)), (yz, .inl (cI, 3, .inl (zf ko kn kr))), (ys, .inl (cI, 2000, .inl S)), (yg, .inl (cB, 32000, .inl G)), (yf, .inl (cB, 2112, .inl F1)), (yw, .inl (cI, 16, .inl V1)), (yh, .inl (cI, 4, .inl H1)), (yn, .inl (cI, 64, .inl KN)), (yt, .inl (cI, 16, .inl KT)), (ye, .inl (cB, 8100, .inl E1)), (yl, .inl (cI, 2000, .inl Tt))]) X 0 5 13 tyX5 tyX5_ok nmX5 rfl rfl (by decide) fl_X5_166 in_X5 rfl rfl (by decide +kernel) rfl rfl (Nat.le_of_ble_eq_true rfl) rfl dX5_delta_267 ?_
            refine k_iload X dX5_delta_270 3 rfl ?_
            refine k_if_eq (tgt := 320) (xi := (1 : Int)) X (by decide) dX5_delta_272 (by decide) (fun c_272 => ?_) (fun c_272 => ?_)
            · exact absurd c_272 (by decide)
            · refine k_aload_n X dX5_delta_275 rfl 0 rfl ?_
              refine k_iconst (v := 0) X dX5_delta_276 (by decide) ?_
              have hE1b : ∀ j, j < k → E1 j = sx (g2 j) := fun j hj => by rw [hE1 j hj, hL.2.2.2.2.1 j hj]
              refine k_callV (wc := [(m0, .inr (5, [.ref yb, .ref yz, .ref ye, .int (nI k), .int (nI sz), .int (nI wz), .int (nI bz), .int (nI uS), .int (nI uW), .ref ys, .ref yg, .int (nI rT), .int (nI lT), .int (nI (ro + 1)), .int (nI aT_), .ref yf, .ref yh, .ref yw, .ref yn, .ref yt, .ref yl, .int (nI tt)])), (ye, .inl (cB, 8100, .inl E1))]) (wr := [(yb, .inl (cB, 6000, .inl B)), (yz, .inl (cI, 3, .inl (zf ko kn kr))), (ys, .inl (cI, 2000, .inl S)), (yg, .inl (cB, 32000, .inl G)), (yf, .inl (cB, 2112, .inl F1)), (yw, .inl (cI, 16, .inl V1)), (yh, .inl (cI, 4, .inl H1)), (yn, .inl (cI, 64, .inl KN)), (yt, .inl (cI, 16, .inl KT)), (yl, .inl (cI, 2000, .inl Tt))]) (As := [.int 0]) (n := 1) (st := []) (q0 := 0) X (m_add l D cI cB m0 yb yz ye ys yg yf yh yw yn yt yl k sz wz bz uS uW rT lT (ro + 1) aT_ tt E1 (0 : Int32) (by omega)) rfl rfl ml_X5_175 im_X5_add se_X5_add ini_X5 co_X5_add (by decide +kernel) rfl ⟨Nat.le_of_ble_eq_true rfl, Nat.le_of_ble_eq_true rfl⟩ (⟨by (try dsimp only); omega, by (try dsimp only); omega⟩) (Nat.le_of_ble_eq_true rfl) [0, 10] [1, 2, 3, 4, 5, 6, 7, 8, 9, 11] rfl rfl rfl (by decide) (by decide) (by decide) rfl dX5_delta_277 (fun v_277 u_277 hu_277 => ?_)
              obtain ⟨rfl, rfl⟩ := hu_277
              refine k_to (ws' := [(yb, .inl (cB, 6000, .inl B)), (yz, .inl (cI, 3, .inl (zf ko kn kr))), (ys, .inl (cI, 2000, .inl S)), (yg, .inl (cB, 32000, .inl G)), (yf, .inl (cB, 2112, .inl F1)), (yw, .inl (cI, 16, .inl V1)), (yh, .inl (cI, 4, .inl H1)), (yn, .inl (cI, 64, .inl KN)), (yt, .inl (cI, 16, .inl KT)), (yl, .inl (cI, 2000, .inl Tt)), (m0, .inr (5, [.ref yb, .ref yz, .ref ye, .int (nI (k + 1)), .int (nI sz), .int (nI wz), .int (nI bz), .int (nI uS), .int (nI uW), .ref ys, .ref yg, .int (nI rT), .int (nI lT), .int (nI (ro + 1)), .int (nI aT_), .ref yf, .ref yh, .ref yw, .ref yn, .ref yt, .ref yl, .int (nI tt)])), (ye, .inl (cB, 8100, .inl (upd E1 k (0 : Int32).toInt8.toInt32)))]) (st' := []) rfl rfl ?_
              have hx1 := agr_add hE1b (by rw [hL.2.2.2.2.2.1]; rfl)
              refine k_aload_n X dX5_delta_280 rfl 0 rfl ?_
              refine k_iload X dX5_delta_281 2 rfl ?_
              refine k_callV (wc := [(m0, .inr (5, [.ref yb, .ref yz, .ref ye, .int (nI (k + 1)), .int (nI sz), .int (nI wz), .int (nI bz), .int (nI uS), .int (nI uW), .ref ys, .ref yg, .int (nI rT), .int (nI lT), .int (nI (ro + 1)), .int (nI aT_), .ref yf, .ref yh, .ref yw, .ref yn, .ref yt, .ref yl, .int (nI tt)])), (ye, .inl (cB, 8100, .inl (upd E1 k (0 : Int32).toInt8.toInt32)))]) (wr := [(yb, .inl (cB, 6000, .inl B)), (yz, .inl (cI, 3, .inl (zf ko kn kr))), (ys, .inl (cI, 2000, .inl S)), (yg, .inl (cB, 32000, .inl G)), (yf, .inl (cB, 2112, .inl F1)), (yw, .inl (cI, 16, .inl V1)), (yh, .inl (cI, 4, .inl H1)), (yn, .inl (cI, 64, .inl KN)), (yt, .inl (cI, 16, .inl KT)), (yl, .inl (cI, 2000, .inl Tt))]) (As := [.int (nI n)]) (n := 1) (st := []) (q0 := 0) X (m_add l D cI cB m0 yb yz ye ys yg yf yh yw yn yt yl (k + 1) sz wz bz uS uW rT lT (ro + 1) aT_ tt (upd E1 k (0 : Int32).toInt8.toInt32) (nI n) (by omega)) rfl rfl ml_X5_175 im_X5_add se_X5_add ini_X5 co_X5_add (by decide +kernel) rfl ⟨Nat.le_of_ble_eq_true rfl, Nat.le_of_ble_eq_true rfl⟩ (⟨by (try dsimp only); omega, by (try dsimp only); omega⟩) (Nat.le_of_ble_eq_true rfl) [10, 11] [0, 1, 2, 3, 4, 5, 6, 7, 8, 9] rfl rfl rfl (by decide) (by decide) (by decide) rfl dX5_delta_283 (fun v_283 u_283 hu_283 => ?_)
              obtain ⟨rfl, rfl⟩ := hu_283
              refine k_to (ws' := [(yb, .inl (cB, 6000, .inl B)), (yz, .inl (cI, 3, .inl (zf ko kn kr))), (ys, .inl (cI, 2000, .inl S)), (yg, .inl (cB, 32000, .inl G)), (yf, .inl (cB, 2112, .inl F1)), (yw, .inl (cI, 16, .inl V1)), (yh, .inl (cI, 4, .inl H1)), (yn, .inl (cI, 64, .inl KN)), (yt, .inl (cI, 16, .inl KT)), (yl, .inl (cI, 2000, .inl Tt)), (m0, .inr (5, [.ref yb, .ref yz, .ref ye, .int (nI ((k + 1) + 1)), .int (nI sz), .int (nI wz), .int (nI bz), .int (nI uS), .int (nI uW), .ref ys, .ref yg, .int (nI rT), .int (nI lT), .int (nI (ro + 1)), .int (nI aT_), .ref yf, .ref yh, .ref yw, .ref yn, .ref yt, .ref yl, .int (nI tt)])), (ye, .inl (cB, 8100, .inl (upd (upd E1 k (0 : Int32).toInt8.toInt32) (k + 1) (nI n).toInt8.toInt32)))]) (st' := []) rfl rfl ?_
              have hx2 := agr_add hx1 (by rw [hL.2.2.2.2.2.2.1]; rfl)
              refine k_ws (ws' := [(yb, .inl (cB, 6000, .inl B)), (yz, .inl (cI, 3, .inl (zf ko kn kr))), (ys, .inl (cI, 2000, .inl S)), (yg, .inl (cB, 32000, .inl G)), (yf, .inl (cB, 2112, .inl F1)), (yw, .inl (cI, 16, .inl V1)), (yh, .inl (cI, 4, .inl H1)), (yn, .inl (cI, 64, .inl KN)), (yt, .inl (cI, 16, .inl KT)), (yl, .inl (cI, 2000, .inl Tt)), (m0, .inr (5, [.ref yb, .ref yz, .ref ye, .int (nI (k + 2)), .int (nI sz), .int (nI wz), .int (nI bz), .int (nI uS), .int (nI uW), .ref ys, .ref yg, .int (nI rT), .int (nI lT), .int (nI (ro + 1)), .int (nI aT_), .ref yf, .ref yh, .ref yw, .ref yn, .ref yt, .ref yl, .int (nI tt)])), (ye, .inl (cB, 8100, .inl (upd (upd E1 k (0 : Int32).toInt8.toInt32) (k + 1) (nI n).toInt8.toInt32)))]) rfl ?_
              refine k_iconst (v := 0) X dX5_delta_286 (by decide) ?_
              refine k_istore (lv' := [(6, .int 0), (0, .ref m0), (3, .int (nI t)), (4, .int (nI n)), (5, .int 1)]) X dX5_delta_287 (by decide) rfl ?_
              refine k_lv (lv' := [(0, .ref m0), (3, .int (nI t)), (4, .int (nI n)), (6, .int (nI 0))]) [1, 2, 3, 0] rfl ?_
              refine k_sub (ws' := [(m0, .inr (5, [.ref yb, .ref yz, .ref ye, .int (nI (k + 2 + 0)), .int (nI sz), .int (nI wz), .int (nI bz), .int (nI uS), .int (nI uW), .ref ys, .ref yg, .int (nI rT), .int (nI lT), .int (nI (ro + 1)), .int (nI aT_), .ref yf, .ref yh, .ref yw, .ref yn, .ref yt, .ref yl, .int (nI tt)])), (yb, .inl (cB, 6000, .inl B)), (yz, .inl (cI, 3, .inl (zf ko kn kr))), (ys, .inl (cI, 2000, .inl S)), (yg, .inl (cB, 32000, .inl G)), (yf, .inl (cB, 2112, .inl F1)), (yw, .inl (cI, 16, .inl V1)), (yh, .inl (cI, 4, .inl H1)), (yn, .inl (cI, 64, .inl KN)), (yt, .inl (cI, 16, .inl KT)), (ye, .inl (cB, 8100, .inl (upd (upd E1 k (0 : Int32).toInt8.toInt32) (k + 1) (nI n).toInt8.toInt32))), (yl, .inl (cI, 2000, .inl Tt))]) [10, 0, 1, 2, 3, 4, 5, 6, 7, 8, 11, 9] (by decide) rfl rfl ?_
              refine k_wide (k := 0) (n := 0) (by (try dsimp only); omega) (by (try dsimp only); omega) ?_
              refine k_loop2 (pc1 := 289) (cl := fun (q : Nat) (E3 : Nat → Int32) => 0) (sl := fun (q : Nat) (E3 : Nat → Int32) => 0) (wsf := fun (q : Nat) (E3 : Nat → Int32) => [(m0, .inr (5, [.ref yb, .ref yz, .ref ye, .int (nI (k + 2 + q)), .int (nI sz), .int (nI wz), .int (nI bz), .int (nI uS), .int (nI uW), .ref ys, .ref yg, .int (nI rT), .int (nI lT), .int (nI (ro + 1)), .int (nI aT_), .ref yf, .ref yh, .ref yw, .ref yn, .ref yt, .ref yl, .int (nI tt)])), (yb, .inl (cB, 6000, .inl B)), (yz, .inl (cI, 3, .inl (zf ko kn kr))), (ys, .inl (cI, 2000, .inl S)), (yg, .inl (cB, 32000, .inl G)), (yf, .inl (cB, 2112, .inl F1)), (yw, .inl (cI, 16, .inl V1)), (yh, .inl (cI, 4, .inl H1)), (yn, .inl (cI, 64, .inl KN)), (yt, .inl (cI, 16, .inl KT)), (ye, .inl (cB, 8100, .inl E3)), (yl, .inl (cI, 2000, .inl Tt))]) (lvf := fun (q : Nat) (E3 : Nat → Int32) => [(0, .ref m0), (3, .int (nI t)), (4, .int (nI n)), (6, .int (nI q))]) (stf := fun (q : Nat) (E3 : Nat → Int32) => []) (I := fun (q : Nat) (E3 : Nat → Int32) => q ≤ n ∧ ∀ j, j < k + 2 + q → E3 j = sx (g2 j)) (mu := fun (q : Nat) (E3 : Nat → Int32) => n - q) ?_ 0 (upd (upd E1 k (0 : Int32).toInt8.toInt32) (k + 1) (nI n).toInt8.toInt32) (⟨Nat.zero_le _, hx2⟩)
              intro q E3 hM mh
              try dsimp only at hM mh
              try dsimp only
              have hqn := hM.1
              refine k_iload X dX5_delta_289 3 rfl ?_
              refine k_iload X dX5_delta_291 2 rfl ?_
              refine k_icmp_ge (tgt := 317) (xi := ((q : Nat) : Int)) (yi := ((n : Nat) : Int)) X (nI_toInt (by omega)) (nI_toInt (by omega)) dX5_delta_293 (by decide) (fun c_293 => ?_) (fun c_293 => ?_)
              · obtain rfl : n = q := by omega
                refine k_goto (tgt := 354) X dX5_delta_317 (by decide) ?_
                refine k_iload_n X dX5_delta_354 rfl 1 rfl ?_
                refine k_iload X dX5_delta_355 2 rfl ?_
                refine k_iadd X dX5_delta_357 ?_
                refine k_as (y := nI (t + n)) (nI_add _ _) ?_
                refine k_istore_n (lv' := [(3, .int (nI (t + n))), (0, .ref m0), (4, .int (nI n)), (6, .int (nI n))]) X dX5_delta_358 rfl (by decide) rfl ?_
                refine k_goto (tgt := 167) X dX5_delta_359 (by decide) ?_
                refine k_lv (lv' := [(0, .ref m0), (3, .int (nI (t + n)))]) [1, 0] rfl ?_
                refine k_sub (ws' := [(m0, .inr (5, [.ref yb, .ref yz, .ref ye, .int (nI (k + 2 + n)), .int (nI sz), .int (nI wz), .int (nI bz), .int (nI uS), .int (nI uW), .ref ys, .ref yg, .int (nI rT), .int (nI lT), .int (nI (ro + 1)), .int (nI aT_), .ref yf, .ref yh, .ref yw, .ref yn, .ref yt, .ref yl, .int (nI tt)])), (yb, .inl (cB, 6000, .inl B)), (yz, .inl (cI, 3, .inl (zf ko kn kr))), (ys, .inl (cI, 2000, .inl S)), (yg, .inl (cB, 32000, .inl G)), (yf, .inl (cB, 2112, .inl F1)), (yw, .inl (cI, 16, .inl V1)), (yh, .inl (cI, 4, .inl H1)), (yn, .inl (cI, 64, .inl KN)), (yt, .inl (cI, 16, .inl KT)), (ye, .inl (cB, 8100, .inl E3)), (yl, .inl (cI, 2000, .inl Tt))]) [0, 1, 2, 3, 4, 5, 6, 7, 8, 9, 10, 11] (by decide) rfl rfl ?_
                refine k_wide (k := 0) (n := 0) (by (try dsimp only); omega) (by (try dsimp only); omega) ?_
                exact kh (t + n) p2 (-1) rf2 lt2 al2 (k + 2 + n) g2 (ro + 1) n (k + 1) E3 (⟨hdi2, by omega, hM.2, fun _ => ⟨fun _ z => absurd z.2.2 (by omega), fun _ z => z.1 rfl⟩⟩) (by omega)
              · refine k_aload_n X dX5_delta_296 rfl 0 rfl ?_
                refine k_iconst (v := -1) X dX5_delta_297 (by decide) ?_
                refine k_aload_n X dX5_delta_298 rfl 0 rfl ?_
                refine k_get (v := .ref yl) X 0 5 20 rfl rfl (by decide) fl_X5_118 in_X5 rfl rfl dX5_delta_299 ?_
                refine k_iload_n X dX5_delta_302 rfl 1 rfl ?_
                refine k_iload X dX5_delta_303 3 rfl ?_
                refine k_iadd X dX5_delta_305 ?_
                refine k_as (y := nI (t + q)) (nI_add _ _) ?_
                refine k_iald (v := Tt (t + q)) X 11 rfl (vp_in_nI (n := t + q) (by omega) (by omega)) (by rw [nI_clamp (n := t + q) (by omega)]) dX5_delta_306 ?_
                refine k_isub X dX5_delta_307 ?_
                refine k_callV (wc := [(m0, .inr (5, [.ref yb, .ref yz, .ref ye, .int (nI (k + 2 + q)), .int (nI sz), .int (nI wz), .int (nI bz), .int (nI uS), .int (nI uW), .ref ys, .ref yg, .int (nI rT), .int (nI lT), .int (nI (ro + 1)), .int (nI aT_), .ref yf, .ref yh, .ref yw, .ref yn, .ref yt, .ref yl, .int (nI tt)])), (ye, .inl (cB, 8100, .inl E3))]) (wr := [(yb, .inl (cB, 6000, .inl B)), (yz, .inl (cI, 3, .inl (zf ko kn kr))), (ys, .inl (cI, 2000, .inl S)), (yg, .inl (cB, 32000, .inl G)), (yf, .inl (cB, 2112, .inl F1)), (yw, .inl (cI, 16, .inl V1)), (yh, .inl (cI, 4, .inl H1)), (yn, .inl (cI, 64, .inl KN)), (yt, .inl (cI, 16, .inl KT)), (yl, .inl (cI, 2000, .inl Tt))]) (As := [.int ((-1) - (Tt (t + q)))]) (n := 1) (st := []) (q0 := 0) X (m_add l D cI cB m0 yb yz ye ys yg yf yh yw yn yt yl (k + 2 + q) sz wz bz uS uW rT lT (ro + 1) aT_ tt E3 ((-1) - (Tt (t + q))) (by omega)) rfl rfl ml_X5_175 im_X5_add se_X5_add ini_X5 co_X5_add (by decide +kernel) rfl ⟨Nat.le_of_ble_eq_true rfl, Nat.le_of_ble_eq_true rfl⟩ (⟨by (try dsimp only); omega, by (try dsimp only); omega⟩) (Nat.le_of_ble_eq_true rfl) [0, 10] [1, 2, 3, 4, 5, 6, 7, 8, 9, 11] rfl rfl rfl (by decide) (by decide) (by decide) rfl dX5_delta_308 (fun v_308 u_308 hu_308 => ?_)
                obtain ⟨rfl, rfl⟩ := hu_308
                refine k_to (ws' := [(yb, .inl (cB, 6000, .inl B)), (yz, .inl (cI, 3, .inl (zf ko kn kr))), (ys, .inl (cI, 2000, .inl S)), (yg, .inl (cB, 32000, .inl G)), (yf, .inl (cB, 2112, .inl F1)), (yw, .inl (cI, 16, .inl V1)), (yh, .inl (cI, 4, .inl H1)), (yn, .inl (cI, 64, .inl KN)), (yt, .inl (cI, 16, .inl KT)), (yl, .inl (cI, 2000, .inl Tt)), (m0, .inr (5, [.ref yb, .ref yz, .ref ye, .int (nI ((k + 2 + q) + 1)), .int (nI sz), .int (nI wz), .int (nI bz), .int (nI uS), .int (nI uW), .ref ys, .ref yg, .int (nI rT), .int (nI lT), .int (nI (ro + 1)), .int (nI aT_), .ref yf, .ref yh, .ref yw, .ref yn, .ref yt, .ref yl, .int (nI tt)])), (ye, .inl (cB, 8100, .inl (upd E3 (k + 2 + q) ((-1) - (Tt (t + q))).toInt8.toInt32)))]) (st' := []) rfl rfl ?_
                have hx3 := agr_add hM.2 (by rw [hL.2.2.2.2.2.2.2 q (by omega)]; rfl)
                refine k_ws (ws' := [(yb, .inl (cB, 6000, .inl B)), (yz, .inl (cI, 3, .inl (zf ko kn kr))), (ys, .inl (cI, 2000, .inl S)), (yg, .inl (cB, 32000, .inl G)), (yf, .inl (cB, 2112, .inl F1)), (yw, .inl (cI, 16, .inl V1)), (yh, .inl (cI, 4, .inl H1)), (yn, .inl (cI, 64, .inl KN)), (yt, .inl (cI, 16, .inl KT)), (yl, .inl (cI, 2000, .inl Tt)), (m0, .inr (5, [.ref yb, .ref yz, .ref ye, .int (nI (k + 2 + (q + 1))), .int (nI sz), .int (nI wz), .int (nI bz), .int (nI uS), .int (nI uW), .ref ys, .ref yg, .int (nI rT), .int (nI lT), .int (nI (ro + 1)), .int (nI aT_), .ref yf, .ref yh, .ref yw, .ref yn, .ref yt, .ref yl, .int (nI tt)])), (ye, .inl (cB, 8100, .inl (upd E3 (k + 2 + q) ((-1) - (Tt (t + q))).toInt8.toInt32)))]) rfl ?_
                refine k_iinc (v := nI (q + 1)) (lv' := [(6, .int (nI (q + 1))), (0, .ref m0), (3, .int (nI t)), (4, .int (nI n))]) X dX5_delta_311 3 rfl (nI_1 _) (by decide) rfl ?_
                refine k_goto (tgt := 289) X dX5_delta_314 (by decide) ?_
                refine k_lv (lv' := [(0, .ref m0), (3, .int (nI t)), (4, .int (nI n)), (6, .int (nI (q + 1)))]) [1, 2, 3, 0] rfl ?_
                refine k_sub (ws' := [(m0, .inr (5, [.ref yb, .ref yz, .ref ye, .int (nI (k + 2 + (q + 1))), .int (nI sz), .int (nI wz), .int (nI bz), .int (nI uS), .int (nI uW), .ref ys, .ref yg, .int (nI rT), .int (nI lT), .int (nI (ro + 1)), .int (nI aT_), .ref yf, .ref yh, .ref yw, .ref yn, .ref yt, .ref yl, .int (nI tt)])), (yb, .inl (cB, 6000, .inl B)), (yz, .inl (cI, 3, .inl (zf ko kn kr))), (ys, .inl (cI, 2000, .inl S)), (yg, .inl (cB, 32000, .inl G)), (yf, .inl (cB, 2112, .inl F1)), (yw, .inl (cI, 16, .inl V1)), (yh, .inl (cI, 4, .inl H1)), (yn, .inl (cI, 64, .inl KN)), (yt, .inl (cI, 16, .inl KT)), (ye, .inl (cB, 8100, .inl (upd E3 (k + 2 + q) ((-1) - (Tt (t + q))).toInt8.toInt32))), (yl, .inl (cI, 2000, .inl Tt))]) [10, 0, 1, 2, 3, 4, 5, 6, 7, 8, 11, 9] (by decide) rfl rfl ?_
                refine k_wide (k := 0) (n := 0) (by (try dsimp only); omega) (by (try dsimp only); omega) ?_
                exact mh (q + 1) (upd E3 (k + 2 + q) ((-1) - (Tt (t + q))).toInt8.toInt32) (⟨by omega, hx3⟩) (by omega)
          · refine k_iload_n X dX5_delta_202 rfl 1 rfl ?_
            refine k_iload X dX5_delta_203 2 rfl ?_
            refine k_iadd X dX5_delta_205 ?_
            refine k_as (y := nI (t + n)) (nI_add _ _) ?_
            refine k_aload_n X dX5_delta_206 rfl 0 rfl ?_
            refine k_get (v := .int (nI tt)) X 0 5 21 rfl rfl (by decide) fl_X5_169 in_X5 rfl rfl dX5_delta_207 ?_
            refine k_icmp_ge (tgt := 260) (xi := (((t + n) : Nat) : Int)) (yi := ((tt : Nat) : Int)) X (nI_toInt (by omega)) (nI_toInt (by omega)) dX5_delta_210 (by decide) (fun c_210 => ?_) (fun c_210 => ?_)
            · refine k_aload_n X dX5_delta_260 rfl 0 rfl ?_
              refine k_dup X dX5_delta_261 rfl ?_
              refine k_get (v := .int (nI ro)) X 0 5 13 rfl rfl (by decide) fl_X5_166 in_X5 rfl rfl dX5_delta_262 ?_
              refine k_iconst (v := 1) X dX5_delta_265 (by decide) ?_
              refine k_iadd X dX5_delta_266 ?_
              refine k_as (y := nI (ro + 1)) (nI_1 _) ?_
              refine k_put (v := .int (nI (ro + 1))) (ty := .int) (ws' := [(m0, .inr (5, [.ref yb, .ref yz, .ref ye, .int (nI k), .int (nI sz), .int (nI wz), .int (nI bz), .int (nI uS), .int (nI uW), .ref ys, .ref yg, .int (nI rT), .int (nI lT), .int (nI (ro + 1)), .int (nI aT_), .ref yf, .ref yh, .ref yw, .ref yn, .ref yt, .ref yl, .int (nI tt)])), (yb, .inl (cB, 6000, .inl B)), (yz, .inl (cI, 3, .inl (zf ko kn kr))), (ys, .inl (cI, 2000, .inl S)), (yg, .inl (cB, 32000, .inl G)), (yf, .inl (cB, 2112, .inl F1)), (yw, .inl (cI, 16, .inl V1)), (yh, .inl (cI, 4, .inl H1)), (yn, .inl (cI, 64, .inl KN)), (yt, .inl (cI, 16, .inl KT)), (ye, .inl (cB, 8100, .inl E1)), (yl, .inl (cI, 2000, .inl Tt))]) X 0 5 13 tyX5 tyX5_ok nmX5 rfl rfl (by decide) fl_X5_166 in_X5 rfl rfl (by decide +kernel) rfl rfl (Nat.le_of_ble_eq_true rfl) rfl dX5_delta_267 ?_
              refine k_iload X dX5_delta_270 3 rfl ?_
              refine k_if_eq (tgt := 320) (xi := (1 : Int)) X (by decide) dX5_delta_272 (by decide) (fun c_272 => ?_) (fun c_272 => ?_)
              · exact absurd c_272 (by decide)
              · refine k_aload_n X dX5_delta_275 rfl 0 rfl ?_
                refine k_iconst (v := 0) X dX5_delta_276 (by decide) ?_
                have hE1b : ∀ j, j < k → E1 j = sx (g2 j) := fun j hj => by rw [hE1 j hj, hL.2.2.2.2.1 j hj]
                refine k_callV (wc := [(m0, .inr (5, [.ref yb, .ref yz, .ref ye, .int (nI k), .int (nI sz), .int (nI wz), .int (nI bz), .int (nI uS), .int (nI uW), .ref ys, .ref yg, .int (nI rT), .int (nI lT), .int (nI (ro + 1)), .int (nI aT_), .ref yf, .ref yh, .ref yw, .ref yn, .ref yt, .ref yl, .int (nI tt)])), (ye, .inl (cB, 8100, .inl E1))]) (wr := [(yb, .inl (cB, 6000, .inl B)), (yz, .inl (cI, 3, .inl (zf ko kn kr))), (ys, .inl (cI, 2000, .inl S)), (yg, .inl (cB, 32000, .inl G)), (yf, .inl (cB, 2112, .inl F1)), (yw, .inl (cI, 16, .inl V1)), (yh, .inl (cI, 4, .inl H1)), (yn, .inl (cI, 64, .inl KN)), (yt, .inl (cI, 16, .inl KT)), (yl, .inl (cI, 2000, .inl Tt))]) (As := [.int 0]) (n := 1) (st := []) (q0 := 0) X (m_add l D cI cB m0 yb yz ye ys yg yf yh yw yn yt yl k sz wz bz uS uW rT lT (ro + 1) aT_ tt E1 (0 : Int32) (by omega)) rfl rfl ml_X5_175 im_X5_add se_X5_add ini_X5 co_X5_add (by decide +kernel) rfl ⟨Nat.le_of_ble_eq_true rfl, Nat.le_of_ble_eq_true rfl⟩ (⟨by (try dsimp only); omega, by (try dsimp only); omega⟩) (Nat.le_of_ble_eq_true rfl) [0, 10] [1, 2, 3, 4, 5, 6, 7, 8, 9, 11] rfl rfl rfl (by decide) (by decide) (by decide) rfl dX5_delta_277 (fun v_277 u_277 hu_277 => ?_)
                obtain ⟨rfl, rfl⟩ := hu_277
                refine k_to (ws' := [(yb, .inl (cB, 6000, .inl B)), (yz, .inl (cI, 3, .inl (zf ko kn kr))), (ys, .inl (cI, 2000, .inl S)), (yg, .inl (cB, 32000, .inl G)), (yf, .inl (cB, 2112, .inl F1)), (yw, .inl (cI, 16, .inl V1)), (yh, .inl (cI, 4, .inl H1)), (yn, .inl (cI, 64, .inl KN)), (yt, .inl (cI, 16, .inl KT)), (yl, .inl (cI, 2000, .inl Tt)), (m0, .inr (5, [.ref yb, .ref yz, .ref ye, .int (nI (k + 1)), .int (nI sz), .int (nI wz), .int (nI bz), .int (nI uS), .int (nI uW), .ref ys, .ref yg, .int (nI rT), .int (nI lT), .int (nI (ro + 1)), .int (nI aT_), .ref yf, .ref yh, .ref yw, .ref yn, .ref yt, .ref yl, .int (nI tt)])), (ye, .inl (cB, 8100, .inl (upd E1 k (0 : Int32).toInt8.toInt32)))]) (st' := []) rfl rfl ?_
                have hx1 := agr_add hE1b (by rw [hL.2.2.2.2.2.1]; rfl)
                refine k_aload_n X dX5_delta_280 rfl 0 rfl ?_
                refine k_iload X dX5_delta_281 2 rfl ?_
                refine k_callV (wc := [(m0, .inr (5, [.ref yb, .ref yz, .ref ye, .int (nI (k + 1)), .int (nI sz), .int (nI wz), .int (nI bz), .int (nI uS), .int (nI uW), .ref ys, .ref yg, .int (nI rT), .int (nI lT), .int (nI (ro + 1)), .int (nI aT_), .ref yf, .ref yh, .ref yw, .ref yn, .ref yt, .ref yl, .int (nI tt)])), (ye, .inl (cB, 8100, .inl (upd E1 k (0 : Int32).toInt8.toInt32)))]) (wr := [(yb, .inl (cB, 6000, .inl B)), (yz, .inl (cI, 3, .inl (zf ko kn kr))), (ys, .inl (cI, 2000, .inl S)), (yg, .inl (cB, 32000, .inl G)), (yf, .inl (cB, 2112, .inl F1)), (yw, .inl (cI, 16, .inl V1)), (yh, .inl (cI, 4, .inl H1)), (yn, .inl (cI, 64, .inl KN)), (yt, .inl (cI, 16, .inl KT)), (yl, .inl (cI, 2000, .inl Tt))]) (As := [.int (nI n)]) (n := 1) (st := []) (q0 := 0) X (m_add l D cI cB m0 yb yz ye ys yg yf yh yw yn yt yl (k + 1) sz wz bz uS uW rT lT (ro + 1) aT_ tt (upd E1 k (0 : Int32).toInt8.toInt32) (nI n) (by omega)) rfl rfl ml_X5_175 im_X5_add se_X5_add ini_X5 co_X5_add (by decide +kernel) rfl ⟨Nat.le_of_ble_eq_true rfl, Nat.le_of_ble_eq_true rfl⟩ (⟨by (try dsimp only); omega, by (try dsimp only); omega⟩) (Nat.le_of_ble_eq_true rfl) [10, 11] [0, 1, 2, 3, 4, 5, 6, 7, 8, 9] rfl rfl rfl (by decide) (by decide) (by decide) rfl dX5_delta_283 (fun v_283 u_283 hu_283 => ?_)
                obtain ⟨rfl, rfl⟩ := hu_283
                refine k_to (ws' := [(yb, .inl (cB, 6000, .inl B)), (yz, .inl (cI, 3, .inl (zf ko kn kr))), (ys, .inl (cI, 2000, .inl S)), (yg, .inl (cB, 32000, .inl G)), (yf, .inl (cB, 2112, .inl F1)), (yw, .inl (cI, 16, .inl V1)), (yh, .inl (cI, 4, .inl H1)), (yn, .inl (cI, 64, .inl KN)), (yt, .inl (cI, 16, .inl KT)), (yl, .inl (cI, 2000, .inl Tt)), (m0, .inr (5, [.ref yb, .ref yz, .ref ye, .int (nI ((k + 1) + 1)), .int (nI sz), .int (nI wz), .int (nI bz), .int (nI uS), .int (nI uW), .ref ys, .ref yg, .int (nI rT), .int (nI lT), .int (nI (ro + 1)), .int (nI aT_), .ref yf, .ref yh, .ref yw, .ref yn, .ref yt, .ref yl, .int (nI tt)])), (ye, .inl (cB, 8100, .inl (upd (upd E1 k (0 : Int32).toInt8.toInt32) (k + 1) (nI n).toInt8.toInt32)))]) (st' := []) rfl rfl ?_
                have hx2 := agr_add hx1 (by rw [hL.2.2.2.2.2.2.1]; rfl)
                refine k_ws (ws' := [(yb, .inl (cB, 6000, .inl B)), (yz, .inl (cI, 3, .inl (zf ko kn kr))), (ys, .inl (cI, 2000, .inl S)), (yg, .inl (cB, 32000, .inl G)), (yf, .inl (cB, 2112, .inl F1)), (yw, .inl (cI, 16, .inl V1)), (yh, .inl (cI, 4, .inl H1)), (yn, .inl (cI, 64, .inl KN)), (yt, .inl (cI, 16, .inl KT)), (yl, .inl (cI, 2000, .inl Tt)), (m0, .inr (5, [.ref yb, .ref yz, .ref ye, .int (nI (k + 2)), .int (nI sz), .int (nI wz), .int (nI bz), .int (nI uS), .int (nI uW), .ref ys, .ref yg, .int (nI rT), .int (nI lT), .int (nI (ro + 1)), .int (nI aT_), .ref yf, .ref yh, .ref yw, .ref yn, .ref yt, .ref yl, .int (nI tt)])), (ye, .inl (cB, 8100, .inl (upd (upd E1 k (0 : Int32).toInt8.toInt32) (k + 1) (nI n).toInt8.toInt32)))]) rfl ?_
                refine k_iconst (v := 0) X dX5_delta_286 (by decide) ?_
                refine k_istore (lv' := [(6, .int 0), (0, .ref m0), (3, .int (nI t)), (4, .int (nI n)), (5, .int 1)]) X dX5_delta_287 (by decide) rfl ?_
                refine k_lv (lv' := [(0, .ref m0), (3, .int (nI t)), (4, .int (nI n)), (6, .int (nI 0))]) [1, 2, 3, 0] rfl ?_
                refine k_sub (ws' := [(m0, .inr (5, [.ref yb, .ref yz, .ref ye, .int (nI (k + 2 + 0)), .int (nI sz), .int (nI wz), .int (nI bz), .int (nI uS), .int (nI uW), .ref ys, .ref yg, .int (nI rT), .int (nI lT), .int (nI (ro + 1)), .int (nI aT_), .ref yf, .ref yh, .ref yw, .ref yn, .ref yt, .ref yl, .int (nI tt)])), (yb, .inl (cB, 6000, .inl B)), (yz, .inl (cI, 3, .inl (zf ko kn kr))), (ys, .inl (cI, 2000, .inl S)), (yg, .inl (cB, 32000, .inl G)), (yf, .inl (cB, 2112, .inl F1)), (yw, .inl (cI, 16, .inl V1)), (yh, .inl (cI, 4, .inl H1)), (yn, .inl (cI, 64, .inl KN)), (yt, .inl (cI, 16, .inl KT)), (ye, .inl (cB, 8100, .inl (upd (upd E1 k (0 : Int32).toInt8.toInt32) (k + 1) (nI n).toInt8.toInt32))), (yl, .inl (cI, 2000, .inl Tt))]) [10, 0, 1, 2, 3, 4, 5, 6, 7, 8, 11, 9] (by decide) rfl rfl ?_
                refine k_wide (k := 0) (n := 0) (by (try dsimp only); omega) (by (try dsimp only); omega) ?_
                refine k_loop2 (pc1 := 289) (cl := fun (q : Nat) (E3 : Nat → Int32) => 0) (sl := fun (q : Nat) (E3 : Nat → Int32) => 0) (wsf := fun (q : Nat) (E3 : Nat → Int32) => [(m0, .inr (5, [.ref yb, .ref yz, .ref ye, .int (nI (k + 2 + q)), .int (nI sz), .int (nI wz), .int (nI bz), .int (nI uS), .int (nI uW), .ref ys, .ref yg, .int (nI rT), .int (nI lT), .int (nI (ro + 1)), .int (nI aT_), .ref yf, .ref yh, .ref yw, .ref yn, .ref yt, .ref yl, .int (nI tt)])), (yb, .inl (cB, 6000, .inl B)), (yz, .inl (cI, 3, .inl (zf ko kn kr))), (ys, .inl (cI, 2000, .inl S)), (yg, .inl (cB, 32000, .inl G)), (yf, .inl (cB, 2112, .inl F1)), (yw, .inl (cI, 16, .inl V1)), (yh, .inl (cI, 4, .inl H1)), (yn, .inl (cI, 64, .inl KN)), (yt, .inl (cI, 16, .inl KT)), (ye, .inl (cB, 8100, .inl E3)), (yl, .inl (cI, 2000, .inl Tt))]) (lvf := fun (q : Nat) (E3 : Nat → Int32) => [(0, .ref m0), (3, .int (nI t)), (4, .int (nI n)), (6, .int (nI q))]) (stf := fun (q : Nat) (E3 : Nat → Int32) => []) (I := fun (q : Nat) (E3 : Nat → Int32) => q ≤ n ∧ ∀ j, j < k + 2 + q → E3 j = sx (g2 j)) (mu := fun (q : Nat) (E3 : Nat → Int32) => n - q) ?_ 0 (upd (upd E1 k (0 : Int32).toInt8.toInt32) (k + 1) (nI n).toInt8.toInt32) (⟨Nat.zero_le _, hx2⟩)
                intro q E3 hM mh
                try dsimp only at hM mh
                try dsimp only
                have hqn := hM.1
                refine k_iload X dX5_delta_289 3 rfl ?_
                refine k_iload X dX5_delta_291 2 rfl ?_
                refine k_icmp_ge (tgt := 317) (xi := ((q : Nat) : Int)) (yi := ((n : Nat) : Int)) X (nI_toInt (by omega)) (nI_toInt (by omega)) dX5_delta_293 (by decide) (fun c_293 => ?_) (fun c_293 => ?_)
                · obtain rfl : n = q := by omega
                  refine k_goto (tgt := 354) X dX5_delta_317 (by decide) ?_
                  refine k_iload_n X dX5_delta_354 rfl 1 rfl ?_
                  refine k_iload X dX5_delta_355 2 rfl ?_
                  refine k_iadd X dX5_delta_357 ?_
                  refine k_as (y := nI (t + n)) (nI_add _ _) ?_
                  refine k_istore_n (lv' := [(3, .int (nI (t + n))), (0, .ref m0), (4, .int (nI n)), (6, .int (nI n))]) X dX5_delta_358 rfl (by decide) rfl ?_
                  refine k_goto (tgt := 167) X dX5_delta_359 (by decide) ?_
                  refine k_lv (lv' := [(0, .ref m0), (3, .int (nI (t + n)))]) [1, 0] rfl ?_
                  refine k_sub (ws' := [(m0, .inr (5, [.ref yb, .ref yz, .ref ye, .int (nI (k + 2 + n)), .int (nI sz), .int (nI wz), .int (nI bz), .int (nI uS), .int (nI uW), .ref ys, .ref yg, .int (nI rT), .int (nI lT), .int (nI (ro + 1)), .int (nI aT_), .ref yf, .ref yh, .ref yw, .ref yn, .ref yt, .ref yl, .int (nI tt)])), (yb, .inl (cB, 6000, .inl B)), (yz, .inl (cI, 3, .inl (zf ko kn kr))), (ys, .inl (cI, 2000, .inl S)), (yg, .inl (cB, 32000, .inl G)), (yf, .inl (cB, 2112, .inl F1)), (yw, .inl (cI, 16, .inl V1)), (yh, .inl (cI, 4, .inl H1)), (yn, .inl (cI, 64, .inl KN)), (yt, .inl (cI, 16, .inl KT)), (ye, .inl (cB, 8100, .inl E3)), (yl, .inl (cI, 2000, .inl Tt))]) [0, 1, 2, 3, 4, 5, 6, 7, 8, 9, 10, 11] (by decide) rfl rfl ?_
                  refine k_wide (k := 0) (n := 0) (by (try dsimp only); omega) (by (try dsimp only); omega) ?_
                  exact kh (t + n) p2 (-1) rf2 lt2 al2 (k + 2 + n) g2 (ro + 1) n (k + 1) E3 (⟨hdi2, by omega, hM.2, fun z => absurd z (by omega)⟩) (by omega)
                · refine k_aload_n X dX5_delta_296 rfl 0 rfl ?_
                  refine k_iconst (v := -1) X dX5_delta_297 (by decide) ?_
                  refine k_aload_n X dX5_delta_298 rfl 0 rfl ?_
                  refine k_get (v := .ref yl) X 0 5 20 rfl rfl (by decide) fl_X5_118 in_X5 rfl rfl dX5_delta_299 ?_
                  refine k_iload_n X dX5_delta_302 rfl 1 rfl ?_
                  refine k_iload X dX5_delta_303 3 rfl ?_
                  refine k_iadd X dX5_delta_305 ?_
                  refine k_as (y := nI (t + q)) (nI_add _ _) ?_
                  refine k_iald (v := Tt (t + q)) X 11 rfl (vp_in_nI (n := t + q) (by omega) (by omega)) (by rw [nI_clamp (n := t + q) (by omega)]) dX5_delta_306 ?_
                  refine k_isub X dX5_delta_307 ?_
                  refine k_callV (wc := [(m0, .inr (5, [.ref yb, .ref yz, .ref ye, .int (nI (k + 2 + q)), .int (nI sz), .int (nI wz), .int (nI bz), .int (nI uS), .int (nI uW), .ref ys, .ref yg, .int (nI rT), .int (nI lT), .int (nI (ro + 1)), .int (nI aT_), .ref yf, .ref yh, .ref yw, .ref yn, .ref yt, .ref yl, .int (nI tt)])), (ye, .inl (cB, 8100, .inl E3))]) (wr := [(yb, .inl (cB, 6000, .inl B)), (yz, .inl (cI, 3, .inl (zf ko kn kr))), (ys, .inl (cI, 2000, .inl S)), (yg, .inl (cB, 32000, .inl G)), (yf, .inl (cB, 2112, .inl F1)), (yw, .inl (cI, 16, .inl V1)), (yh, .inl (cI, 4, .inl H1)), (yn, .inl (cI, 64, .inl KN)), (yt, .inl (cI, 16, .inl KT)), (yl, .inl (cI, 2000, .inl Tt))]) (As := [.int ((-1) - (Tt (t + q)))]) (n := 1) (st := []) (q0 := 0) X (m_add l D cI cB m0 yb yz ye ys yg yf yh yw yn yt yl (k + 2 + q) sz wz bz uS uW rT lT (ro + 1) aT_ tt E3 ((-1) - (Tt (t + q))) (by omega)) rfl rfl ml_X5_175 im_X5_add se_X5_add ini_X5 co_X5_add (by decide +kernel) rfl ⟨Nat.le_of_ble_eq_true rfl, Nat.le_of_ble_eq_true rfl⟩ (⟨by (try dsimp only); omega, by (try dsimp only); omega⟩) (Nat.le_of_ble_eq_true rfl) [0, 10] [1, 2, 3, 4, 5, 6, 7, 8, 9, 11] rfl rfl rfl (by decide) (by decide) (by decide) rfl dX5_delta_308 (fun v_308 u_308 hu_308 => ?_)
                  obtain ⟨rfl, rfl⟩ := hu_308
                  refine k_to (ws' := [(yb, .inl (cB, 6000, .inl B)), (yz, .inl (cI, 3, .inl (zf ko kn kr))), (ys, .inl (cI, 2000, .inl S)), (yg, .inl (cB, 32000, .inl G)), (yf, .inl (cB, 2112, .inl F1)), (yw, .inl (cI, 16, .inl V1)), (yh, .inl (cI, 4, .inl H1)), (yn, .inl (cI, 64, .inl KN)), (yt, .inl (cI, 16, .inl KT)), (yl, .inl (cI, 2000, .inl Tt)), (m0, .inr (5, [.ref yb, .ref yz, .ref ye, .int (nI ((k + 2 + q) + 1)), .int (nI sz), .int (nI wz), .int (nI bz), .int (nI uS), .int (nI uW), .ref ys, .ref yg, .int (nI rT), .int (nI lT), .int (nI (ro + 1)), .int (nI aT_), .ref yf, .ref yh, .ref yw, .ref yn, .ref yt, .ref yl, .int (nI tt)])), (ye, .inl (cB, 8100, .inl (upd E3 (k + 2 + q) ((-1) - (Tt (t + q))).toInt8.toInt32)))]) (st' := []) rfl rfl ?_
                  have hx3 := agr_add hM.2 (by rw [hL.2.2.2.2.2.2.2 q (by omega)]; rfl)
                  refine k_ws (ws' := [(yb, .inl (cB, 6000, .inl B)), (yz, .inl (cI, 3, .inl (zf ko kn kr))), (ys, .inl (cI, 2000, .inl S)), (yg, .inl (cB, 32000, .inl G)), (yf, .inl (cB, 2112, .inl F1)), (yw, .inl (cI, 16, .inl V1)), (yh, .inl (cI, 4, .inl H1)), (yn, .inl (cI, 64, .inl KN)), (yt, .inl (cI, 16, .inl KT)), (yl, .inl (cI, 2000, .inl Tt)), (m0, .inr (5, [.ref yb, .ref yz, .ref ye, .int (nI (k + 2 + (q + 1))), .int (nI sz), .int (nI wz), .int (nI bz), .int (nI uS), .int (nI uW), .ref ys, .ref yg, .int (nI rT), .int (nI lT), .int (nI (ro + 1)), .int (nI aT_), .ref yf, .ref yh, .ref yw, .ref yn, .ref yt, .ref yl, .int (nI tt)])), (ye, .inl (cB, 8100, .inl (upd E3 (k + 2 + q) ((-1) - (Tt (t + q))).toInt8.toInt32)))]) rfl ?_
                  refine k_iinc (v := nI (q + 1)) (lv' := [(6, .int (nI (q + 1))), (0, .ref m0), (3, .int (nI t)), (4, .int (nI n))]) X dX5_delta_311 3 rfl (nI_1 _) (by decide) rfl ?_
                  refine k_goto (tgt := 289) X dX5_delta_314 (by decide) ?_
                  refine k_lv (lv' := [(0, .ref m0), (3, .int (nI t)), (4, .int (nI n)), (6, .int (nI (q + 1)))]) [1, 2, 3, 0] rfl ?_
                  refine k_sub (ws' := [(m0, .inr (5, [.ref yb, .ref yz, .ref ye, .int (nI (k + 2 + (q + 1))), .int (nI sz), .int (nI wz), .int (nI bz), .int (nI uS), .int (nI uW), .ref ys, .ref yg, .int (nI rT), .int (nI lT), .int (nI (ro + 1)), .int (nI aT_), .ref yf, .ref yh, .ref yw, .ref yn, .ref yt, .ref yl, .int (nI tt)])), (yb, .inl (cB, 6000, .inl B)), (yz, .inl (cI, 3, .inl (zf ko kn kr))), (ys, .inl (cI, 2000, .inl S)), (yg, .inl (cB, 32000, .inl G)), (yf, .inl (cB, 2112, .inl F1)), (yw, .inl (cI, 16, .inl V1)), (yh, .inl (cI, 4, .inl H1)), (yn, .inl (cI, 64, .inl KN)), (yt, .inl (cI, 16, .inl KT)), (ye, .inl (cB, 8100, .inl (upd E3 (k + 2 + q) ((-1) - (Tt (t + q))).toInt8.toInt32))), (yl, .inl (cI, 2000, .inl Tt))]) [10, 0, 1, 2, 3, 4, 5, 6, 7, 8, 11, 9] (by decide) rfl rfl ?_
                  refine k_wide (k := 0) (n := 0) (by (try dsimp only); omega) (by (try dsimp only); omega) ?_
                  exact mh (q + 1) (upd E3 (k + 2 + q) ((-1) - (Tt (t + q))).toInt8.toInt32) (⟨by omega, hx3⟩) (by omega)
            · refine k_iload X dX5_delta_213 3 rfl ?_
              refine k_if_eq (tgt := 233) (xi := (1 : Int)) X (by decide) dX5_delta_215 (by decide) (fun c_215 => ?_) (fun c_215 => ?_)
              · exact absurd c_215 (by decide)
              · refine k_aload_n X dX5_delta_218 rfl 0 rfl ?_
                refine k_get (v := .ref yl) X 0 5 20 rfl rfl (by decide) fl_X5_118 in_X5 rfl rfl dX5_delta_219 ?_
                refine k_iload_n X dX5_delta_222 rfl 1 rfl ?_
                refine k_iload X dX5_delta_223 2 rfl ?_
                refine k_iadd X dX5_delta_225 ?_
                refine k_as (y := nI (t + n)) (nI_add _ _) ?_
                refine k_iald (v := Tt (t + n)) X 11 rfl (vp_in_nI (n := t + n) (by omega) (by omega)) (by rw [nI_clamp (n := t + n) (by omega)]) dX5_delta_226 ?_
                have hlive2 : p2 < kn := by have := hlv (t + n) (by omega); rw [hdi2] at this; exact this
                have htv2 := hTk (t + n) (by omega)
                rcases tB_cases f kn uS uW bz S G p2 (-1) with htB2 | ⟨hpb2, bm, hbm, htB2⟩
                · have hT2 : Tt (t + n) = -1 - f p2 := by rw [htv2, tkV, hdi2, if_pos htB2]
                  refine k_as (y := -1 - f p2) (hT2) ?_
                  have hti2 := tok_int (hby p2 hlive2)
                  have hbp2 := hby p2 hlive2
                  have hdn2 : n < 255 → _ := fun hlt => dS_lg hdi2 hlive2 htB2 rfl ⟨by omega, hlt⟩
                  replace hdn2 := hdn2 (by omega)
                  refine k_if_ge (tgt := 260) (xi := -1 - (f p2).toInt) X (hti2) dX5_delta_227 (by decide) (fun c_227 => ?_) (fun c_227 => ?_)
                  · exact absurd c_227 (tok_neg hbp2)
                  · refine k_goto (tgt := 254) X dX5_delta_230 (by decide) ?_
                    refine k_iinc (v := nI (n + 1)) (lv' := [(4, .int (nI (n + 1))), (0, .ref m0), (3, .int (nI t)), (5, .int 1)]) X dX5_delta_254 2 rfl (nI_1 _) (by decide) rfl ?_
                    refine k_goto (tgt := 194) X dX5_delta_257 (by decide) ?_
                    refine k_lv (lv' := [(0, .ref m0), (3, .int (nI t)), (4, .int (nI (n + 1))), (5, .int 1)]) [1, 2, 0, 3] rfl ?_
                    refine k_sub (ws' := [(m0, .inr (5, [.ref yb, .ref yz, .ref ye, .int (nI k), .int (nI sz), .int (nI wz), .int (nI bz), .int (nI uS), .int (nI uW), .ref ys, .ref yg, .int (nI rT), .int (nI lT), .int (nI ro), .int (nI aT_), .ref yf, .ref yh, .ref yw, .ref yn, .ref yt, .ref yl, .int (nI tt)])), (yb, .inl (cB, 6000, .inl B)), (yz, .inl (cI, 3, .inl (zf ko kn kr))), (ys, .inl (cI, 2000, .inl S)), (yg, .inl (cB, 32000, .inl G)), (yf, .inl (cB, 2112, .inl F1)), (yw, .inl (cI, 16, .inl V1)), (yh, .inl (cI, 4, .inl H1)), (yn, .inl (cI, 64, .inl KN)), (yt, .inl (cI, 16, .inl KT)), (ye, .inl (cB, 8100, .inl E1)), (yl, .inl (cI, 2000, .inl Tt))]) [0, 1, 2, 3, 4, 5, 6, 7, 8, 9, 10, 11] (by decide) rfl rfl ?_
                    refine k_wide (k := 0) (n := 0) (by (try dsimp only); omega) (by (try dsimp only); omega) ?_
                    exact lh (n + 1) (p2 + 1) rf2 (lt2 + 1) (al2 + tA f kn uS uW bz S G p2 (-1)) (litGrow (k + 2 + n) g2 (k + 1) n (f p2)) (⟨by omega, by omega, by omega, hdn2, fun j hj => by unfold litGrow; rw [pk_un (by omega), pk_un (by omega)]; exact hL.2.2.2.2.1 j hj, by unfold litGrow; rw [pk_un (by omega), pk_un (by omega)]; exact hL.2.2.2.2.2.1, by unfold litGrow; rw [pk_un (by omega), pk_us], lt_s (fun i hi => by unfold litGrow; rw [pk_un (by omega), pk_un (by omega)]; exact hL.2.2.2.2.2.2.2 i hi) (by unfold litGrow; rw [pk_us, hT2, sub_tok])⟩) (by omega)
                · have hne2 : ¬ tB f kn uS uW bz S G p2 (-1) = -1 := by rw [htB2]; exact m1_ne (by omega)
                  have hT2 : Tt (t + n) = nI bm := by rw [htv2, tkV, hdi2, if_neg hne2, htB2]
                  refine k_as (y := nI bm) (hT2) ?_
                  refine k_if_ge (tgt := 260) (xi := ((bm : Nat) : Int)) X (nI_toInt (by omega)) dX5_delta_227 (by decide) (fun c_227 => ?_) (fun c_227 => ?_)
                  · refine k_aload_n X dX5_delta_260 rfl 0 rfl ?_
                    refine k_dup X dX5_delta_261 rfl ?_
                    refine k_get (v := .int (nI ro)) X 0 5 13 rfl rfl (by decide) fl_X5_166 in_X5 rfl rfl dX5_delta_262 ?_
                    refine k_iconst (v := 1) X dX5_delta_265 (by decide) ?_
                    refine k_iadd X dX5_delta_266 ?_
                    refine k_as (y := nI (ro + 1)) (nI_1 _) ?_
                    refine k_put (v := .int (nI (ro + 1))) (ty := .int) (ws' := [(m0, .inr (5, [.ref yb, .ref yz, .ref ye, .int (nI k), .int (nI sz), .int (nI wz), .int (nI bz), .int (nI uS), .int (nI uW), .ref ys, .ref yg, .int (nI rT), .int (nI lT), .int (nI (ro + 1)), .int (nI aT_), .ref yf, .ref yh, .ref yw, .ref yn, .ref yt, .ref yl, .int (nI tt)])), (yb, .inl (cB, 6000, .inl B)), (yz, .inl (cI, 3, .inl (zf ko kn kr))), (ys, .inl (cI, 2000, .inl S)), (yg, .inl (cB, 32000, .inl G)), (yf, .inl (cB, 2112, .inl F1)), (yw, .inl (cI, 16, .inl V1)), (yh, .inl (cI, 4, .inl H1)), (yn, .inl (cI, 64, .inl KN)), (yt, .inl (cI, 16, .inl KT)), (ye, .inl (cB, 8100, .inl E1)), (yl, .inl (cI, 2000, .inl Tt))]) X 0 5 13 tyX5 tyX5_ok nmX5 rfl rfl (by decide) fl_X5_166 in_X5 rfl rfl (by decide +kernel) rfl rfl (Nat.le_of_ble_eq_true rfl) rfl dX5_delta_267 ?_
                    refine k_iload X dX5_delta_270 3 rfl ?_
                    refine k_if_eq (tgt := 320) (xi := (1 : Int)) X (by decide) dX5_delta_272 (by decide) (fun c_272 => ?_) (fun c_272 => ?_)
                    · exact absurd c_272 (by decide)
                    · refine k_aload_n X dX5_delta_275 rfl 0 rfl ?_
                      refine k_iconst (v := 0) X dX5_delta_276 (by decide) ?_
                      have hE1b : ∀ j, j < k → E1 j = sx (g2 j) := fun j hj => by rw [hE1 j hj, hL.2.2.2.2.1 j hj]
                      refine k_callV (wc := [(m0, .inr (5, [.ref yb, .ref yz, .ref ye, .int (nI k), .int (nI sz), .int (nI wz), .int (nI bz), .int (nI uS), .int (nI uW), .ref ys, .ref yg, .int (nI rT), .int (nI lT), .int (nI (ro + 1)), .int (nI aT_), .ref yf, .ref yh, .ref yw, .ref yn, .ref yt, .ref yl, .int (nI tt)])), (ye, .inl (cB, 8100, .inl E1))]) (wr := [(yb, .inl (cB, 6000, .inl B)), (yz, .inl (cI, 3, .inl (zf ko kn kr))), (ys, .inl (cI, 2000, .inl S)), (yg, .inl (cB, 32000, .inl G)), (yf, .inl (cB, 2112, .inl F1)), (yw, .inl (cI, 16, .inl V1)), (yh, .inl (cI, 4, .inl H1)), (yn, .inl (cI, 64, .inl KN)), (yt, .inl (cI, 16, .inl KT)), (yl, .inl (cI, 2000, .inl Tt))]) (As := [.int 0]) (n := 1) (st := []) (q0 := 0) X (m_add l D cI cB m0 yb yz ye ys yg yf yh yw yn yt yl k sz wz bz uS uW rT lT (ro + 1) aT_ tt E1 (0 : Int32) (by omega)) rfl rfl ml_X5_175 im_X5_add se_X5_add ini_X5 co_X5_add (by decide +kernel) rfl ⟨Nat.le_of_ble_eq_true rfl, Nat.le_of_ble_eq_true rfl⟩ (⟨by (try dsimp only); omega, by (try dsimp only); omega⟩) (Nat.le_of_ble_eq_true rfl) [0, 10] [1, 2, 3, 4, 5, 6, 7, 8, 9, 11] rfl rfl rfl (by decide) (by decide) (by decide) rfl dX5_delta_277 (fun v_277 u_277 hu_277 => ?_)
                      obtain ⟨rfl, rfl⟩ := hu_277
                      refine k_to (ws' := [(yb, .inl (cB, 6000, .inl B)), (yz, .inl (cI, 3, .inl (zf ko kn kr))), (ys, .inl (cI, 2000, .inl S)), (yg, .inl (cB, 32000, .inl G)), (yf, .inl (cB, 2112, .inl F1)), (yw, .inl (cI, 16, .inl V1)), (yh, .inl (cI, 4, .inl H1)), (yn, .inl (cI, 64, .inl KN)), (yt, .inl (cI, 16, .inl KT)), (yl, .inl (cI, 2000, .inl Tt)), (m0, .inr (5, [.ref yb, .ref yz, .ref ye, .int (nI (k + 1)), .int (nI sz), .int (nI wz), .int (nI bz), .int (nI uS), .int (nI uW), .ref ys, .ref yg, .int (nI rT), .int (nI lT), .int (nI (ro + 1)), .int (nI aT_), .ref yf, .ref yh, .ref yw, .ref yn, .ref yt, .ref yl, .int (nI tt)])), (ye, .inl (cB, 8100, .inl (upd E1 k (0 : Int32).toInt8.toInt32)))]) (st' := []) rfl rfl ?_
                      have hx1 := agr_add hE1b (by rw [hL.2.2.2.2.2.1]; rfl)
                      refine k_aload_n X dX5_delta_280 rfl 0 rfl ?_
                      refine k_iload X dX5_delta_281 2 rfl ?_
                      refine k_callV (wc := [(m0, .inr (5, [.ref yb, .ref yz, .ref ye, .int (nI (k + 1)), .int (nI sz), .int (nI wz), .int (nI bz), .int (nI uS), .int (nI uW), .ref ys, .ref yg, .int (nI rT), .int (nI lT), .int (nI (ro + 1)), .int (nI aT_), .ref yf, .ref yh, .ref yw, .ref yn, .ref yt, .ref yl, .int (nI tt)])), (ye, .inl (cB, 8100, .inl (upd E1 k (0 : Int32).toInt8.toInt32)))]) (wr := [(yb, .inl (cB, 6000, .inl B)), (yz, .inl (cI, 3, .inl (zf ko kn kr))), (ys, .inl (cI, 2000, .inl S)), (yg, .inl (cB, 32000, .inl G)), (yf, .inl (cB, 2112, .inl F1)), (yw, .inl (cI, 16, .inl V1)), (yh, .inl (cI, 4, .inl H1)), (yn, .inl (cI, 64, .inl KN)), (yt, .inl (cI, 16, .inl KT)), (yl, .inl (cI, 2000, .inl Tt))]) (As := [.int (nI n)]) (n := 1) (st := []) (q0 := 0) X (m_add l D cI cB m0 yb yz ye ys yg yf yh yw yn yt yl (k + 1) sz wz bz uS uW rT lT (ro + 1) aT_ tt (upd E1 k (0 : Int32).toInt8.toInt32) (nI n) (by omega)) rfl rfl ml_X5_175 im_X5_add se_X5_add ini_X5 co_X5_add (by decide +kernel) rfl ⟨Nat.le_of_ble_eq_true rfl, Nat.le_of_ble_eq_true rfl⟩ (⟨by (try dsimp only); omega, by (try dsimp only); omega⟩) (Nat.le_of_ble_eq_true rfl) [10, 11] [0, 1, 2, 3, 4, 5, 6, 7, 8, 9] rfl rfl rfl (by decide) (by decide) (by decide) rfl dX5_delta_283 (fun v_283 u_283 hu_283 => ?_)
                      obtain ⟨rfl, rfl⟩ := hu_283
                      refine k_to (ws' := [(yb, .inl (cB, 6000, .inl B)), (yz, .inl (cI, 3, .inl (zf ko kn kr))), (ys, .inl (cI, 2000, .inl S)), (yg, .inl (cB, 32000, .inl G)), (yf, .inl (cB, 2112, .inl F1)), (yw, .inl (cI, 16, .inl V1)), (yh, .inl (cI, 4, .inl H1)), (yn, .inl (cI, 64, .inl KN)), (yt, .inl (cI, 16, .inl KT)), (yl, .inl (cI, 2000, .inl Tt)), (m0, .inr (5, [.ref yb, .ref yz, .ref ye, .int (nI ((k + 1) + 1)), .int (nI sz), .int (nI wz), .int (nI bz), .int (nI uS), .int (nI uW), .ref ys, .ref yg, .int (nI rT), .int (nI lT), .int (nI (ro + 1)), .int (nI aT_), .ref yf, .ref yh, .ref yw, .ref yn, .ref yt, .ref yl, .int (nI tt)])), (ye, .inl (cB, 8100, .inl (upd (upd E1 k (0 : Int32).toInt8.toInt32) (k + 1) (nI n).toInt8.toInt32)))]) (st' := []) rfl rfl ?_
                      have hx2 := agr_add hx1 (by rw [hL.2.2.2.2.2.2.1]; rfl)
                      refine k_ws (ws' := [(yb, .inl (cB, 6000, .inl B)), (yz, .inl (cI, 3, .inl (zf ko kn kr))), (ys, .inl (cI, 2000, .inl S)), (yg, .inl (cB, 32000, .inl G)), (yf, .inl (cB, 2112, .inl F1)), (yw, .inl (cI, 16, .inl V1)), (yh, .inl (cI, 4, .inl H1)), (yn, .inl (cI, 64, .inl KN)), (yt, .inl (cI, 16, .inl KT)), (yl, .inl (cI, 2000, .inl Tt)), (m0, .inr (5, [.ref yb, .ref yz, .ref ye, .int (nI (k + 2)), .int (nI sz), .int (nI wz), .int (nI bz), .int (nI uS), .int (nI uW), .ref ys, .ref yg, .int (nI rT), .int (nI lT), .int (nI (ro + 1)), .int (nI aT_), .ref yf, .ref yh, .ref yw, .ref yn, .ref yt, .ref yl, .int (nI tt)])), (ye, .inl (cB, 8100, .inl (upd (upd E1 k (0 : Int32).toInt8.toInt32) (k + 1) (nI n).toInt8.toInt32)))]) rfl ?_
                      refine k_iconst (v := 0) X dX5_delta_286 (by decide) ?_
                      refine k_istore (lv' := [(6, .int 0), (0, .ref m0), (3, .int (nI t)), (4, .int (nI n)), (5, .int 1)]) X dX5_delta_287 (by decide) rfl ?_
                      refine k_lv (lv' := [(0, .ref m0), (3, .int (nI t)), (4, .int (nI n)), (6, .int (nI 0))]) [1, 2, 3, 0] rfl ?_
                      refine k_sub (ws' := [(m0, .inr (5, [.ref yb, .ref yz, .ref ye, .int (nI (k + 2 + 0)), .int (nI sz), .int (nI wz), .int (nI bz), .int (nI uS), .int (nI uW), .ref ys, .ref yg, .int (nI rT), .int (nI lT), .int (nI (ro + 1)), .int (nI aT_), .ref yf, .ref yh, .ref yw, .ref yn, .ref yt, .ref yl, .int (nI tt)])), (yb, .inl (cB, 6000, .inl B)), (yz, .inl (cI, 3, .inl (zf ko kn kr))), (ys, .inl (cI, 2000, .inl S)), (yg, .inl (cB, 32000, .inl G)), (yf, .inl (cB, 2112, .inl F1)), (yw, .inl (cI, 16, .inl V1)), (yh, .inl (cI, 4, .inl H1)), (yn, .inl (cI, 64, .inl KN)), (yt, .inl (cI, 16, .inl KT)), (ye, .inl (cB, 8100, .inl (upd (upd E1 k (0 : Int32).toInt8.toInt32) (k + 1) (nI n).toInt8.toInt32))), (yl, .inl (cI, 2000, .inl Tt))]) [10, 0, 1, 2, 3, 4, 5, 6, 7, 8, 11, 9] (by decide) rfl rfl ?_
                      refine k_wide (k := 0) (n := 0) (by (try dsimp only); omega) (by (try dsimp only); omega) ?_
                      refine k_loop2 (pc1 := 289) (cl := fun (q : Nat) (E3 : Nat → Int32) => 0) (sl := fun (q : Nat) (E3 : Nat → Int32) => 0) (wsf := fun (q : Nat) (E3 : Nat → Int32) => [(m0, .inr (5, [.ref yb, .ref yz, .ref ye, .int (nI (k + 2 + q)), .int (nI sz), .int (nI wz), .int (nI bz), .int (nI uS), .int (nI uW), .ref ys, .ref yg, .int (nI rT), .int (nI lT), .int (nI (ro + 1)), .int (nI aT_), .ref yf, .ref yh, .ref yw, .ref yn, .ref yt, .ref yl, .int (nI tt)])), (yb, .inl (cB, 6000, .inl B)), (yz, .inl (cI, 3, .inl (zf ko kn kr))), (ys, .inl (cI, 2000, .inl S)), (yg, .inl (cB, 32000, .inl G)), (yf, .inl (cB, 2112, .inl F1)), (yw, .inl (cI, 16, .inl V1)), (yh, .inl (cI, 4, .inl H1)), (yn, .inl (cI, 64, .inl KN)), (yt, .inl (cI, 16, .inl KT)), (ye, .inl (cB, 8100, .inl E3)), (yl, .inl (cI, 2000, .inl Tt))]) (lvf := fun (q : Nat) (E3 : Nat → Int32) => [(0, .ref m0), (3, .int (nI t)), (4, .int (nI n)), (6, .int (nI q))]) (stf := fun (q : Nat) (E3 : Nat → Int32) => []) (I := fun (q : Nat) (E3 : Nat → Int32) => q ≤ n ∧ ∀ j, j < k + 2 + q → E3 j = sx (g2 j)) (mu := fun (q : Nat) (E3 : Nat → Int32) => n - q) ?_ 0 (upd (upd E1 k (0 : Int32).toInt8.toInt32) (k + 1) (nI n).toInt8.toInt32) (⟨Nat.zero_le _, hx2⟩)
                      intro q E3 hM mh
                      try dsimp only at hM mh
                      try dsimp only
                      have hqn := hM.1
                      refine k_iload X dX5_delta_289 3 rfl ?_
                      refine k_iload X dX5_delta_291 2 rfl ?_
                      refine k_icmp_ge (tgt := 317) (xi := ((q : Nat) : Int)) (yi := ((n : Nat) : Int)) X (nI_toInt (by omega)) (nI_toInt (by omega)) dX5_delta_293 (by decide) (fun c_293 => ?_) (fun c_293 => ?_)
                      · obtain rfl : n = q := by omega
                        refine k_goto (tgt := 354) X dX5_delta_317 (by decide) ?_
                        refine k_iload_n X dX5_delta_354 rfl 1 rfl ?_
                        refine k_iload X dX5_delta_355 2 rfl ?_
                        refine k_iadd X dX5_delta_357 ?_
                        refine k_as (y := nI (t + n)) (nI_add _ _) ?_
                        refine k_istore_n (lv' := [(3, .int (nI (t + n))), (0, .ref m0), (4, .int (nI n)), (6, .int (nI n))]) X dX5_delta_358 rfl (by decide) rfl ?_
                        refine k_goto (tgt := 167) X dX5_delta_359 (by decide) ?_
                        refine k_lv (lv' := [(0, .ref m0), (3, .int (nI (t + n)))]) [1, 0] rfl ?_
                        refine k_sub (ws' := [(m0, .inr (5, [.ref yb, .ref yz, .ref ye, .int (nI (k + 2 + n)), .int (nI sz), .int (nI wz), .int (nI bz), .int (nI uS), .int (nI uW), .ref ys, .ref yg, .int (nI rT), .int (nI lT), .int (nI (ro + 1)), .int (nI aT_), .ref yf, .ref yh, .ref yw, .ref yn, .ref yt, .ref yl, .int (nI tt)])), (yb, .inl (cB, 6000, .inl B)), (yz, .inl (cI, 3, .inl (zf ko kn kr))), (ys, .inl (cI, 2000, .inl S)), (yg, .inl (cB, 32000, .inl G)), (yf, .inl (cB, 2112, .inl F1)), (yw, .inl (cI, 16, .inl V1)), (yh, .inl (cI, 4, .inl H1)), (yn, .inl (cI, 64, .inl KN)), (yt, .inl (cI, 16, .inl KT)), (ye, .inl (cB, 8100, .inl E3)), (yl, .inl (cI, 2000, .inl Tt))]) [0, 1, 2, 3, 4, 5, 6, 7, 8, 9, 10, 11] (by decide) rfl rfl ?_
                        refine k_wide (k := 0) (n := 0) (by (try dsimp only); omega) (by (try dsimp only); omega) ?_
                        exact kh (t + n) p2 (-1) rf2 lt2 al2 (k + 2 + n) g2 (ro + 1) n (k + 1) E3 (⟨hdi2, by omega, hM.2, fun _ => ⟨fun z => absurd z hne2, fun _ z => z.1 rfl⟩⟩) (by omega)
                      · refine k_aload_n X dX5_delta_296 rfl 0 rfl ?_
                        refine k_iconst (v := -1) X dX5_delta_297 (by decide) ?_
                        refine k_aload_n X dX5_delta_298 rfl 0 rfl ?_
                        refine k_get (v := .ref yl) X 0 5 20 rfl rfl (by decide) fl_X5_118 in_X5 rfl rfl dX5_delta_299 ?_
                        refine k_iload_n X dX5_delta_302 rfl 1 rfl ?_
                        refine k_iload X dX5_delta_303 3 rfl ?_
                        refine k_iadd X dX5_delta_305 ?_
                        refine k_as (y := nI (t + q)) (nI_add _ _) ?_
                        refine k_iald (v := Tt (t + q)) X 11 rfl (vp_in_nI (n := t + q) (by omega) (by omega)) (by rw [nI_clamp (n := t + q) (by omega)]) dX5_delta_306 ?_
                        refine k_isub X dX5_delta_307 ?_
                        refine k_callV (wc := [(m0, .inr (5, [.ref yb, .ref yz, .ref ye, .int (nI (k + 2 + q)), .int (nI sz), .int (nI wz), .int (nI bz), .int (nI uS), .int (nI uW), .ref ys, .ref yg, .int (nI rT), .int (nI lT), .int (nI (ro + 1)), .int (nI aT_), .ref yf, .ref yh, .ref yw, .ref yn, .ref yt, .ref yl, .int (nI tt)])), (ye, .inl (cB, 8100, .inl E3))]) (wr := [(yb, .inl (cB, 6000, .inl B)), (yz, .inl (cI, 3, .inl (zf ko kn kr))), (ys, .inl (cI, 2000, .inl S)), (yg, .inl (cB, 32000, .inl G)), (yf, .inl (cB, 2112, .inl F1)), (yw, .inl (cI, 16, .inl V1)), (yh, .inl (cI, 4, .inl H1)), (yn, .inl (cI, 64, .inl KN)), (yt, .inl (cI, 16, .inl KT)), (yl, .inl (cI, 2000, .inl Tt))]) (As := [.int ((-1) - (Tt (t + q)))]) (n := 1) (st := []) (q0 := 0) X (m_add l D cI cB m0 yb yz ye ys yg yf yh yw yn yt yl (k + 2 + q) sz wz bz uS uW rT lT (ro + 1) aT_ tt E3 ((-1) - (Tt (t + q))) (by omega)) rfl rfl ml_X5_175 im_X5_add se_X5_add ini_X5 co_X5_add (by decide +kernel) rfl ⟨Nat.le_of_ble_eq_true rfl, Nat.le_of_ble_eq_true rfl⟩ (⟨by (try dsimp only); omega, by (try dsimp only); omega⟩) (Nat.le_of_ble_eq_true rfl) [0, 10] [1, 2, 3, 4, 5, 6, 7, 8, 9, 11] rfl rfl rfl (by decide) (by decide) (by decide) rfl dX5_delta_308 (fun v_308 u_308 hu_308 => ?_)
                        obtain ⟨rfl, rfl⟩ := hu_308
                        refine k_to (ws' := [(yb, .inl (cB, 6000, .inl B)), (yz, .inl (cI, 3, .inl (zf ko kn kr))), (ys, .inl (cI, 2000, .inl S)), (yg, .inl (cB, 32000, .inl G)), (yf, .inl (cB, 2112, .inl F1)), (yw, .inl (cI, 16, .inl V1)), (yh, .inl (cI, 4, .inl H1)), (yn, .inl (cI, 64, .inl KN)), (yt, .inl (cI, 16, .inl KT)), (yl, .inl (cI, 2000, .inl Tt)), (m0, .inr (5, [.ref yb, .ref yz, .ref ye, .int (nI ((k + 2 + q) + 1)), .int (nI sz), .int (nI wz), .int (nI bz), .int (nI uS), .int (nI uW), .ref ys, .ref yg, .int (nI rT), .int (nI lT), .int (nI (ro + 1)), .int (nI aT_), .ref yf, .ref yh, .ref yw, .ref yn, .ref yt, .ref yl, .int (nI tt)])), (ye, .inl (cB, 8100, .inl (upd E3 (k + 2 + q) ((-1) - (Tt (t + q))).toInt8.toInt32)))]) (st' := []) rfl rfl ?_
                        have hx3 := agr_add hM.2 (by rw [hL.2.2.2.2.2.2.2 q (by omega)]; rfl)
                        refine k_ws (ws' := [(yb, .inl (cB, 6000, .inl B)), (yz, .inl (cI, 3, .inl (zf ko kn kr))), (ys, .inl (cI, 2000, .inl S)), (yg, .inl (cB, 32000, .inl G)), (yf, .inl (cB, 2112, .inl F1)), (yw, .inl (cI, 16, .inl V1)), (yh, .inl (cI, 4, .inl H1)), (yn, .inl (cI, 64, .inl KN)), (yt, .inl (cI, 16, .inl KT)), (yl, .inl (cI, 2000, .inl Tt)), (m0, .inr (5, [.ref yb, .ref yz, .ref ye, .int (nI (k + 2 + (q + 1))), .int (nI sz), .int (nI wz), .int (nI bz), .int (nI uS), .int (nI uW), .ref ys, .ref yg, .int (nI rT), .int (nI lT), .int (nI (ro + 1)), .int (nI aT_), .ref yf, .ref yh, .ref yw, .ref yn, .ref yt, .ref yl, .int (nI tt)])), (ye, .inl (cB, 8100, .inl (upd E3 (k + 2 + q) ((-1) - (Tt (t + q))).toInt8.toInt32)))]) rfl ?_
                        refine k_iinc (v := nI (q + 1)) (lv' := [(6, .int (nI (q + 1))), (0, .ref m0), (3, .int (nI t)), (4, .int (nI n))]) X dX5_delta_311 3 rfl (nI_1 _) (by decide) rfl ?_
                        refine k_goto (tgt := 289) X dX5_delta_314 (by decide) ?_
                        refine k_lv (lv' := [(0, .ref m0), (3, .int (nI t)), (4, .int (nI n)), (6, .int (nI (q + 1)))]) [1, 2, 3, 0] rfl ?_
                        refine k_sub (ws' := [(m0, .inr (5, [.ref yb, .ref yz, .ref ye, .int (nI (k + 2 + (q + 1))), .int (nI sz), .int (nI wz), .int (nI bz), .int (nI uS), .int (nI uW), .ref ys, .ref yg, .int (nI rT), .int (nI lT), .int (nI (ro + 1)), .int (nI aT_), .ref yf, .ref yh, .ref yw, .ref yn, .ref yt, .ref yl, .int (nI tt)])), (yb, .inl (cB, 6000, .inl B)), (yz, .inl (cI, 3, .inl (zf ko kn kr))), (ys, .inl (cI, 2000, .inl S)), (yg, .inl (cB, 32000, .inl G)), (yf, .inl (cB, 2112, .inl F1)), (yw, .inl (cI, 16, .inl V1)), (yh, .inl (cI, 4, .inl H1)), (yn, .inl (cI, 64, .inl KN)), (yt, .inl (cI, 16, .inl KT)), (ye, .inl (cB, 8100, .inl (upd E3 (k + 2 + q) ((-1) - (Tt (t + q))).toInt8.toInt32))), (yl, .inl (cI, 2000, .inl Tt))]) [10, 0, 1, 2, 3, 4, 5, 6, 7, 8, 11, 9] (by decide) rfl rfl ?_
                        refine k_wide (k := 0) (n := 0) (by (try dsimp only); omega) (by (try dsimp only); omega) ?_
                        exact mh (q + 1) (upd E3 (k + 2 + q) ((-1) - (Tt (t + q))).toInt8.toInt32) (⟨by omega, hx3⟩) (by omega)
                  · exact absurd c_227 (by omega)
      · have hne : ¬ tB f kn uS uW bz S G p la = -1 := by rw [htB]; exact m1_ne (by omega)
        have hT0 : Tt t = nI bn := by rw [htv, tkV, hdi, if_neg hne, htB]
        refine k_as (y := nI bn) (hT0) ?_
        have hdn := dS_ro hdi hlive htB (by omega) (by rw [← htB]; exact (hop (by omega)).2 hne)
        refine k_if_ge (tgt := 191) (xi := ((bn : Nat) : Int)) X (nI_toInt (by omega)) dX5_delta_184 (by decide) (fun c_184 => ?_) (fun c_184 => ?_)
        · refine k_iconst (v := 0) X dX5_delta_191 (by decide) ?_
          refine k_istore (lv' := [(5, .int 0), (4, .int 1), (0, .ref m0), (3, .int (nI t))]) X dX5_delta_192 (by decide) rfl ?_
          refine k_lv (lv' := [(0, .ref m0), (3, .int (nI t)), (4, .int (nI 1)), (5, .int 0)]) [2, 3, 1, 0] rfl ?_
          refine k_sub (ws' := [(m0, .inr (5, [.ref yb, .ref yz, .ref ye, .int (nI k), .int (nI sz), .int (nI wz), .int (nI bz), .int (nI uS), .int (nI uW), .ref ys, .ref yg, .int (nI rT), .int (nI lT), .int (nI ro), .int (nI aT_), .ref yf, .ref yh, .ref yw, .ref yn, .ref yt, .ref yl, .int (nI tt)])), (yb, .inl (cB, 6000, .inl B)), (yz, .inl (cI, 3, .inl (zf ko kn kr))), (ys, .inl (cI, 2000, .inl S)), (yg, .inl (cB, 32000, .inl G)), (yf, .inl (cB, 2112, .inl F1)), (yw, .inl (cI, 16, .inl V1)), (yh, .inl (cI, 4, .inl H1)), (yn, .inl (cI, 64, .inl KN)), (yt, .inl (cI, 16, .inl KT)), (ye, .inl (cB, 8100, .inl E1)), (yl, .inl (cI, 2000, .inl Tt))]) [0, 1, 2, 3, 4, 5, 6, 7, 8, 9, 10, 11] (by decide) rfl rfl ?_
          refine k_wide (k := 0) (n := 0) (by (try dsimp only); omega) (by (try dsimp only); omega) ?_
          refine k_loop6 (pc1 := 194) (cl := fun (n : Nat) (p2 : Nat) (rf2 : Nat) (lt2 : Nat) (al2 : Nat) (g2 : Nat → Int32) => 0) (sl := fun (n : Nat) (p2 : Nat) (rf2 : Nat) (lt2 : Nat) (al2 : Nat) (g2 : Nat → Int32) => 0) (wsf := fun (n : Nat) (p2 : Nat) (rf2 : Nat) (lt2 : Nat) (al2 : Nat) (g2 : Nat → Int32) => [(m0, .inr (5, [.ref yb, .ref yz, .ref ye, .int (nI k), .int (nI sz), .int (nI wz), .int (nI bz), .int (nI uS), .int (nI uW), .ref ys, .ref yg, .int (nI rT), .int (nI lT), .int (nI ro), .int (nI aT_), .ref yf, .ref yh, .ref yw, .ref yn, .ref yt, .ref yl, .int (nI tt)])), (yb, .inl (cB, 6000, .inl B)), (yz, .inl (cI, 3, .inl (zf ko kn kr))), (ys, .inl (cI, 2000, .inl S)), (yg, .inl (cB, 32000, .inl G)), (yf, .inl (cB, 2112, .inl F1)), (yw, .inl (cI, 16, .inl V1)), (yh, .inl (cI, 4, .inl H1)), (yn, .inl (cI, 64, .inl KN)), (yt, .inl (cI, 16, .inl KT)), (ye, .inl (cB, 8100, .inl E1)), (yl, .inl (cI, 2000, .inl Tt))]) (lvf := fun (n : Nat) (p2 : Nat) (rf2 : Nat) (lt2 : Nat) (al2 : Nat) (g2 : Nat → Int32) => [(0, .ref m0), (3, .int (nI t)), (4, .int (nI n)), (5, .int 0)]) (stf := fun (n : Nat) (p2 : Nat) (rf2 : Nat) (lt2 : Nat) (al2 : Nat) (g2 : Nat → Int32) => []) (I := fun (n : Nat) (p2 : Nat) (rf2 : Nat) (lt2 : Nat) (al2 : Nat) (g2 : Nat → Int32) => 1 ≤ n ∧ n ≤ 255 ∧ t + n ≤ tt ∧ dI f kn uS uW bz S G (t + n) = (p2, nI (bn + n - 1), rf2, lt2, al2, k + 4, g2, ro + 1, n, k + 3) ∧ (∀ j, j < k → g2 j = g j) ∧ g2 k = 1 ∧ g2 (k + 1) = nI (bn / 256) ∧ g2 (k + 2) = nI (bn % 256) ∧ g2 (k + 3) = nI n) (mu := fun (n : Nat) (p2 : Nat) (rf2 : Nat) (lt2 : Nat) (al2 : Nat) (g2 : Nat → Int32) => 255 - n) ?_ 1 (p + uS) (rf + 1) lt al (refOpen k g bn) (⟨by omega, by omega, by omega, hdn, fun j hj => by unfold refOpen; rw [pk_un (by omega), pk_un (by omega), pk_un (by omega), pk_un (by omega)], by unfold refOpen; rw [pk_un (by omega), pk_un (by omega), pk_un (by omega), pk_us], by unfold refOpen; rw [pk_un (by omega), pk_un (by omega), pk_us], by unfold refOpen; rw [pk_un (by omega), pk_us], by unfold refOpen; rw [pk_us]; rfl⟩)
          intro n p2 rf2 lt2 al2 g2 hL lh
          try dsimp only at hL lh
          try dsimp only
          have hn1 := hL.1; have hn255 := hL.2.1; have htn := hL.2.2.1
          have hdi2 := hL.2.2.2.1
          have hok2 := dI_ok f kn uS uW bz S G hu1 hz (t + n)
          rw [hdi2] at hok2
          obtain ⟨b1, b2, b3, b4, b5, b6, b7, b8, b9⟩ := hok2
          refine k_iload X dX5_delta_194 2 rfl ?_
          refine k_sipush (v := 255) X dX5_delta_196 (by decide) ?_
          refine k_icmp_ge (tgt := 260) (xi := ((n : Nat) : Int)) (yi := (255 : Int)) X (nI_toInt (by omega)) (by decide) dX5_delta_199 (by decide) (fun c_199 => ?_) (fun c_199 => ?_)
          · refine k_aload_n X dX5_delta_260 rfl 0 rfl ?_
            refine k_dup X dX5_delta_261 rfl ?_
            refine k_get (v := .int (nI ro)) X 0 5 13 rfl rfl (by decide) fl_X5_166 in_X5 rfl rfl dX5_delta_262 ?_
            refine k_iconst (v := 1) X dX5_delta_265 (by decide) ?_
            refine k_iadd X dX5_delta_266 ?_
            refine k_as (y := nI (ro + 1)) (nI_1 _) ?_
            refine k_put (v := .int (nI (ro + 1))) (ty := .int) (ws' := [(m0, .inr (5, [.ref yb, .ref yz, .ref ye, .int (nI k), .int (nI sz), .int (nI wz), .int (nI bz), .int (nI uS), .int (nI uW), .ref ys, .ref yg, .int (nI rT), .int (nI lT), .int (nI (ro + 1)), .int (nI aT_), .ref yf, .ref yh, .ref yw, .ref yn, .ref yt, .ref yl, .int (nI tt)])), (yb, .inl (cB, 6000, .inl B)), (yz, .inl (cI, 3, .inl (zf ko kn kr))), (ys, .inl (cI, 2000, .inl S)), (yg, .inl (cB, 32000, .inl G)), (yf, .inl (cB, 2112, .inl F1)), (yw, .inl (cI, 16, .inl V1)), (yh, .inl (cI, 4, .inl H1)), (yn, .inl (cI, 64, .inl KN)), (yt, .inl (cI, 16, .inl KT)), (ye, .inl (cB, 8100, .inl E1)), (yl, .inl (cI, 2000, .inl Tt))]) X 0 5 13 tyX5 tyX5_ok nmX5 rfl rfl (by decide) fl_X5_166 in_X5 rfl rfl (by decide +kernel) rfl rfl (Nat.le_of_ble_eq_true rfl) rfl dX5_delta_267 ?_
            refine k_iload X dX5_delta_270 3 rfl ?_
            refine k_if_eq (tgt := 320) (xi := (0 : Int)) X (by decide) dX5_delta_272 (by decide) (fun c_272 => ?_) (fun c_272 => ?_)
            · refine k_aload_n X dX5_delta_320 rfl 0 rfl ?_
              refine k_iconst (v := 1) X dX5_delta_321 (by decide) ?_
              have hE1b : ∀ j, j < k → E1 j = sx (g2 j) := fun j hj => by rw [hE1 j hj, hL.2.2.2.2.1 j hj]
              refine k_callV (wc := [(m0, .inr (5, [.ref yb, .ref yz, .ref ye, .int (nI k), .int (nI sz), .int (nI wz), .int (nI bz), .int (nI uS), .int (nI uW), .ref ys, .ref yg, .int (nI rT), .int (nI lT), .int (nI (ro + 1)), .int (nI aT_), .ref yf, .ref yh, .ref yw, .ref yn, .ref yt, .ref yl, .int (nI tt)])), (ye, .inl (cB, 8100, .inl E1))]) (wr := [(yb, .inl (cB, 6000, .inl B)), (yz, .inl (cI, 3, .inl (zf ko kn kr))), (ys, .inl (cI, 2000, .inl S)), (yg, .inl (cB, 32000, .inl G)), (yf, .inl (cB, 2112, .inl F1)), (yw, .inl (cI, 16, .inl V1)), (yh, .inl (cI, 4, .inl H1)), (yn, .inl (cI, 64, .inl KN)), (yt, .inl (cI, 16, .inl KT)), (yl, .inl (cI, 2000, .inl Tt))]) (As := [.int 1]) (n := 1) (st := []) (q0 := 0) X (m_add l D cI cB m0 yb yz ye ys yg yf yh yw yn yt yl k sz wz bz uS uW rT lT (ro + 1) aT_ tt E1 (1 : Int32) (by omega)) rfl rfl ml_X5_175 im_X5_add se_X5_add ini_X5 co_X5_add (by decide +kernel) rfl ⟨Nat.le_of_ble_eq_true rfl, Nat.le_of_ble_eq_true rfl⟩ (⟨by (try dsimp only); omega, by (try dsimp only); omega⟩) (Nat.le_of_ble_eq_true rfl) [0, 10] [1, 2, 3, 4, 5, 6, 7, 8, 9, 11] rfl rfl rfl (by decide) (by decide) (by decide) rfl dX5_delta_322 (fun v_322 u_322 hu_322 => ?_)
              obtain ⟨rfl, rfl⟩ := hu_322
              refine k_to (ws' := [(yb, .inl (cB, 6000, .inl B)), (yz, .inl (cI, 3, .inl (zf ko kn kr))), (ys, .inl (cI, 2000, .inl S)), (yg, .inl (cB, 32000, .inl G)), (yf, .inl (cB, 2112, .inl F1)), (yw, .inl (cI, 16, .inl V1)), (yh, .inl (cI, 4, .inl H1)), (yn, .inl (cI, 64, .inl KN)), (yt, .inl (cI, 16, .inl KT)), (yl, .inl (cI, 2000, .inl Tt)), (m0, .inr (5, [.ref yb, .ref yz, .ref ye, .int (nI (k + 1)), .int (nI sz), .int (nI wz), .int (nI bz), .int (nI uS), .int (nI uW), .ref ys, .ref yg, .int (nI rT), .int (nI lT), .int (nI (ro + 1)), .int (nI aT_), .ref yf, .ref yh, .ref yw, .ref yn, .ref yt, .ref yl, .int (nI tt)])), (ye, .inl (cB, 8100, .inl (upd E1 k (1 : Int32).toInt8.toInt32)))]) (st' := []) rfl rfl ?_
              have hx1 := agr_add hE1b (by rw [hL.2.2.2.2.2.1]; rfl)
              refine k_aload_n X dX5_delta_325 rfl 0 rfl ?_
              refine k_aload_n X dX5_delta_326 rfl 0 rfl ?_
              refine k_get (v := .ref yl) X 10 5 20 rfl rfl (by decide) fl_X5_118 in_X5 rfl rfl dX5_delta_327 ?_
              refine k_iload_n X dX5_delta_330 rfl 1 rfl ?_
              refine k_iald (v := Tt t) X 9 rfl (vp_in_nI (n := t) (by omega) (by omega)) (by rw [nI_clamp (n := t) (by omega)]) dX5_delta_331 ?_
              refine k_as (y := nI bn) (hT0) ?_
              refine k_bipush (v := 8) X dX5_delta_332 (by decide) ?_
              refine k_ishr X dX5_delta_334 ?_
              refine k_as (y := nI (bn / 256)) (n_shr (by omega) 8 (by decide)) ?_
              refine k_callV (wc := [(m0, .inr (5, [.ref yb, .ref yz, .ref ye, .int (nI (k + 1)), .int (nI sz), .int (nI wz), .int (nI bz), .int (nI uS), .int (nI uW), .ref ys, .ref yg, .int (nI rT), .int (nI lT), .int (nI (ro + 1)), .int (nI aT_), .ref yf, .ref yh, .ref yw, .ref yn, .ref yt, .ref yl, .int (nI tt)])), (ye, .inl (cB, 8100, .inl (upd E1 k (1 : Int32).toInt8.toInt32)))]) (wr := [(yb, .inl (cB, 6000, .inl B)), (yz, .inl (cI, 3, .inl (zf ko kn kr))), (ys, .inl (cI, 2000, .inl S)), (yg, .inl (cB, 32000, .inl G)), (yf, .inl (cB, 2112, .inl F1)), (yw, .inl (cI, 16, .inl V1)), (yh, .inl (cI, 4, .inl H1)), (yn, .inl (cI, 64, .inl KN)), (yt, .inl (cI, 16, .inl KT)), (yl, .inl (cI, 2000, .inl Tt))]) (As := [.int (nI (bn / 256))]) (n := 1) (st := []) (q0 := 0) X (m_add l D cI cB m0 yb yz ye ys yg yf yh yw yn yt yl (k + 1) sz wz bz uS uW rT lT (ro + 1) aT_ tt (upd E1 k (1 : Int32).toInt8.toInt32) (nI (bn / 256)) (by omega)) rfl rfl ml_X5_175 im_X5_add se_X5_add ini_X5 co_X5_add (by decide +kernel) rfl ⟨Nat.le_of_ble_eq_true rfl, Nat.le_of_ble_eq_true rfl⟩ (⟨by (try dsimp only); omega, by (try dsimp only); omega⟩) (Nat.le_of_ble_eq_true rfl) [10, 11] [0, 1, 2, 3, 4, 5, 6, 7, 8, 9] rfl rfl rfl (by decide) (by decide) (by decide) rfl dX5_delta_335 (fun v_335 u_335 hu_335 => ?_)
              obtain ⟨rfl, rfl⟩ := hu_335
              refine k_to (ws' := [(yb, .inl (cB, 6000, .inl B)), (yz, .inl (cI, 3, .inl (zf ko kn kr))), (ys, .inl (cI, 2000, .inl S)), (yg, .inl (cB, 32000, .inl G)), (yf, .inl (cB, 2112, .inl F1)), (yw, .inl (cI, 16, .inl V1)), (yh, .inl (cI, 4, .inl H1)), (yn, .inl (cI, 64, .inl KN)), (yt, .inl (cI, 16, .inl KT)), (yl, .inl (cI, 2000, .inl Tt)), (m0, .inr (5, [.ref yb, .ref yz, .ref ye, .int (nI ((k + 1) + 1)), .int (nI sz), .int (nI wz), .int (nI bz), .int (nI uS), .int (nI uW), .ref ys, .ref yg, .int (nI rT), .int (nI lT), .int (nI (ro + 1)), .int (nI aT_), .ref yf, .ref yh, .ref yw, .ref yn, .ref yt, .ref yl, .int (nI tt)])), (ye, .inl (cB, 8100, .inl (upd (upd E1 k (1 : Int32).toInt8.toInt32) (k + 1) (nI (bn / 256)).toInt8.toInt32)))]) (st' := []) rfl rfl ?_
              have hx2 := agr_add hx1 (by rw [hL.2.2.2.2.2.2.1]; rfl)
              refine k_aload_n X dX5_delta_338 rfl 0 rfl ?_
              refine k_aload_n X dX5_delta_339 rfl 0 rfl ?_
              refine k_get (v := .ref yl) X 10 5 20 rfl rfl (by decide) fl_X5_118 in_X5 rfl rfl dX5_delta_340 ?_
              refine k_iload_n X dX5_delta_343 rfl 1 rfl ?_
              refine k_iald (v := Tt t) X 9 rfl (vp_in_nI (n := t) (by omega) (by omega)) (by rw [nI_clamp (n := t) (by omega)]) dX5_delta_344 ?_
              refine k_as (y := nI bn) (hT0) ?_
              refine k_callV (wc := [(m0, .inr (5, [.ref yb, .ref yz, .ref ye, .int (nI ((k + 1) + 1)), .int (nI sz), .int (nI wz), .int (nI bz), .int (nI uS), .int (nI uW), .ref ys, .ref yg, .int (nI rT), .int (nI lT), .int (nI (ro + 1)), .int (nI aT_), .ref yf, .ref yh, .ref yw, .ref yn, .ref yt, .ref yl, .int (nI tt)])), (ye, .inl (cB, 8100, .inl (upd (upd E1 k (1 : Int32).toInt8.toInt32) (k + 1) (nI (bn / 256)).toInt8.toInt32)))]) (wr := [(yb, .inl (cB, 6000, .inl B)), (yz, .inl (cI, 3, .inl (zf ko kn kr))), (ys, .inl (cI, 2000, .inl S)), (yg, .inl (cB, 32000, .inl G)), (yf, .inl (cB, 2112, .inl F1)), (yw, .inl (cI, 16, .inl V1)), (yh, .inl (cI, 4, .inl H1)), (yn, .inl (cI, 64, .inl KN)), (yt, .inl (cI, 16, .inl KT)), (yl, .inl (cI, 2000, .inl Tt))]) (As := [.int (nI bn)]) (n := 1) (st := []) (q0 := 0) X (m_add l D cI cB m0 yb yz ye ys yg yf yh yw yn yt yl ((k + 1) + 1) sz wz bz uS uW rT lT (ro + 1) aT_ tt (upd (upd E1 k (1 : Int32).toInt8.toInt32) (k + 1) (nI (bn / 256)).toInt8.toInt32) (nI bn) (by omega)) rfl rfl ml_X5_175 im_X5_add se_X5_add ini_X5 co_X5_add (by decide +kernel) rfl ⟨Nat.le_of_ble_eq_true rfl, Nat.le_of_ble_eq_true rfl⟩ (⟨by (try dsimp only); omega, by (try dsimp only); omega⟩) (Nat.le_of_ble_eq_true rfl) [10, 11] [0, 1, 2, 3, 4, 5, 6, 7, 8, 9] rfl rfl rfl (by decide) (by decide) (by decide) rfl dX5_delta_345 (fun v_345 u_345 hu_345 => ?_)
              obtain ⟨rfl, rfl⟩ := hu_345
              refine k_to (ws' := [(yb, .inl (cB, 6000, .inl B)), (yz, .inl (cI, 3, .inl (zf ko kn kr))), (ys, .inl (cI, 2000, .inl S)), (yg, .inl (cB, 32000, .inl G)), (yf, .inl (cB, 2112, .inl F1)), (yw, .inl (cI, 16, .inl V1)), (yh, .inl (cI, 4, .inl H1)), (yn, .inl (cI, 64, .inl KN)), (yt, .inl (cI, 16, .inl KT)), (yl, .inl (cI, 2000, .inl Tt)), (m0, .inr (5, [.ref yb, .ref yz, .ref ye, .int (nI (((k + 1) + 1) + 1)), .int (nI sz), .int (nI wz), .int (nI bz), .int (nI uS), .int (nI uW), .ref ys, .ref yg, .int (nI rT), .int (nI lT), .int (nI (ro + 1)), .int (nI aT_), .ref yf, .ref yh, .ref yw, .ref yn, .ref yt, .ref yl, .int (nI tt)])), (ye, .inl (cB, 8100, .inl (upd (upd (upd E1 k (1 : Int32).toInt8.toInt32) (k + 1) (nI (bn / 256)).toInt8.toInt32) ((k + 1) + 1) (nI bn).toInt8.toInt32)))]) (st' := []) rfl rfl ?_
              have hx3 := agr_add hx2 (by rw [hL.2.2.2.2.2.2.2.1]; exact sx_mod (by omega))
              refine k_aload_n X dX5_delta_348 rfl 0 rfl ?_
              refine k_iload X dX5_delta_349 2 rfl ?_
              refine k_callV (wc := [(m0, .inr (5, [.ref yb, .ref yz, .ref ye, .int (nI (((k + 1) + 1) + 1)), .int (nI sz), .int (nI wz), .int (nI bz), .int (nI uS), .int (nI uW), .ref ys, .ref yg, .int (nI rT), .int (nI lT), .int (nI (ro + 1)), .int (nI aT_), .ref yf, .ref yh, .ref yw, .ref yn, .ref yt, .ref yl, .int (nI tt)])), (ye, .inl (cB, 8100, .inl (upd (upd (upd E1 k (1 : Int32).toInt8.toInt32) (k + 1) (nI (bn / 256)).toInt8.toInt32) ((k + 1) + 1) (nI bn).toInt8.toInt32)))]) (wr := [(yb, .inl (cB, 6000, .inl B)), (yz, .inl (cI, 3, .inl (zf ko kn kr))), (ys, .inl (cI, 2000, .inl S)), (yg, .inl (cB, 32000, .inl G)), (yf, .inl (cB, 2112, .inl F1)), (yw, .inl (cI, 16, .inl V1)), (yh, .inl (cI, 4, .inl H1)), (yn, .inl (cI, 64, .inl KN)), (yt, .inl (cI, 16, .inl KT)), (yl, .inl (cI, 2000, .inl Tt))]) (As := [.int (nI n)]) (n := 1) (st := []) (q0 := 0) X (m_add l D cI cB m0 yb yz ye ys yg yf yh yw yn yt yl (((k + 1) + 1) + 1) sz wz bz uS uW rT lT (ro + 1) aT_ tt (upd (upd (upd E1 k (1 : Int32).toInt8.toInt32) (k + 1) (nI (bn / 256)).toInt8.toInt32) ((k + 1) + 1) (nI bn).toInt8.toInt32) (nI n) (by omega)) rfl rfl ml_X5_175 im_X5_add se_X5_add ini_X5 co_X5_add (by decide +kernel) rfl ⟨Nat.le_of_ble_eq_true rfl, Nat.le_of_ble_eq_true rfl⟩ (⟨by (try dsimp only); omega, by (try dsimp only); omega⟩) (Nat.le_of_ble_eq_true rfl) [10, 11] [0, 1, 2, 3, 4, 5, 6, 7, 8, 9] rfl rfl rfl (by decide) (by decide) (by decide) rfl dX5_delta_351 (fun v_351 u_351 hu_351 => ?_)
              obtain ⟨rfl, rfl⟩ := hu_351
              refine k_to (ws' := [(yb, .inl (cB, 6000, .inl B)), (yz, .inl (cI, 3, .inl (zf ko kn kr))), (ys, .inl (cI, 2000, .inl S)), (yg, .inl (cB, 32000, .inl G)), (yf, .inl (cB, 2112, .inl F1)), (yw, .inl (cI, 16, .inl V1)), (yh, .inl (cI, 4, .inl H1)), (yn, .inl (cI, 64, .inl KN)), (yt, .inl (cI, 16, .inl KT)), (yl, .inl (cI, 2000, .inl Tt)), (m0, .inr (5, [.ref yb, .ref yz, .ref ye, .int (nI ((((k + 1) + 1) + 1) + 1)), .int (nI sz), .int (nI wz), .int (nI bz), .int (nI uS), .int (nI uW), .ref ys, .ref yg, .int (nI rT), .int (nI lT), .int (nI (ro + 1)), .int (nI aT_), .ref yf, .ref yh, .ref yw, .ref yn, .ref yt, .ref yl, .int (nI tt)])), (ye, .inl (cB, 8100, .inl (upd (upd (upd (upd E1 k (1 : Int32).toInt8.toInt32) (k + 1) (nI (bn / 256)).toInt8.toInt32) ((k + 1) + 1) (nI bn).toInt8.toInt32) (((k + 1) + 1) + 1) (nI n).toInt8.toInt32)))]) (st' := []) rfl rfl ?_
              have hx4 := agr_add hx3 (by rw [hL.2.2.2.2.2.2.2.2]; rfl)
              refine k_ws (ws' := [(yb, .inl (cB, 6000, .inl B)), (yz, .inl (cI, 3, .inl (zf ko kn kr))), (ys, .inl (cI, 2000, .inl S)), (yg, .inl (cB, 32000, .inl G)), (yf, .inl (cB, 2112, .inl F1)), (yw, .inl (cI, 16, .inl V1)), (yh, .inl (cI, 4, .inl H1)), (yn, .inl (cI, 64, .inl KN)), (yt, .inl (cI, 16, .inl KT)), (yl, .inl (cI, 2000, .inl Tt)), (m0, .inr (5, [.ref yb, .ref yz, .ref ye, .int (nI (k + 4)), .int (nI sz), .int (nI wz), .int (nI bz), .int (nI uS), .int (nI uW), .ref ys, .ref yg, .int (nI rT), .int (nI lT), .int (nI (ro + 1)), .int (nI aT_), .ref yf, .ref yh, .ref yw, .ref yn, .ref yt, .ref yl, .int (nI tt)])), (ye, .inl (cB, 8100, .inl (upd (upd (upd (upd E1 k (1 : Int32).toInt8.toInt32) (k + 1) (nI (bn / 256)).toInt8.toInt32) ((k + 1) + 1) (nI bn).toInt8.toInt32) (((k + 1) + 1) + 1) (nI n).toInt8.toInt32)))]) rfl ?_
              refine k_iload_n X dX5_delta_354 rfl 1 rfl ?_
              refine k_iload X dX5_delta_355 2 rfl ?_
              refine k_iadd X dX5_delta_357 ?_
              refine k_as (y := nI (t + n)) (nI_add _ _) ?_
              refine k_istore_n (lv' := [(3, .int (nI (t + n))), (0, .ref m0), (4, .int (nI n)), (5, .int 0)]) X dX5_delta_358 rfl (by decide) rfl ?_
              refine k_goto (tgt := 167) X dX5_delta_359 (by decide) ?_
              refine k_lv (lv' := [(0, .ref m0), (3, .int (nI (t + n)))]) [1, 0] rfl ?_
              refine k_sub (ws' := [(m0, .inr (5, [.ref yb, .ref yz, .ref ye, .int (nI (k + 4)), .int (nI sz), .int (nI wz), .int (nI bz), .int (nI uS), .int (nI uW), .ref ys, .ref yg, .int (nI rT), .int (nI lT), .int (nI (ro + 1)), .int (nI aT_), .ref yf, .ref yh, .ref yw, .ref yn, .ref yt, .ref yl, .int (nI tt)])), (yb, .inl (cB, 6000, .inl B)), (yz, .inl (cI, 3, .inl (zf ko kn kr))), (ys, .inl (cI, 2000, .inl S)), (yg, .inl (cB, 32000, .inl G)), (yf, .inl (cB, 2112, .inl F1)), (yw, .inl (cI, 16, .inl V1)), (yh, .inl (cI, 4, .inl H1)), (yn, .inl (cI, 64, .inl KN)), (yt, .inl (cI, 16, .inl KT)), (ye, .inl (cB, 8100, .inl (upd (upd (upd (upd E1 k (1 : Int32).toInt8.toInt32) (k + 1) (nI (bn / 256)).toInt8.toInt32) ((k + 1) + 1) (nI bn).toInt8.toInt32) (((k + 1) + 1) + 1) (nI n).toInt8.toInt32))), (yl, .inl (cI, 2000, .inl Tt))]) [10, 0, 1, 2, 3, 4, 5, 6, 7, 8, 11, 9] (by decide) rfl rfl ?_
              refine k_wide (k := 0) (n := 0) (by (try dsimp only); omega) (by (try dsimp only); omega) ?_
              exact kh (t + n) p2 (nI (bn + n - 1)) rf2 lt2 al2 (k + 4) g2 (ro + 1) n (k + 3) (upd (upd (upd (upd E1 k (1 : Int32).toInt8.toInt32) (k + 1) (nI (bn / 256)).toInt8.toInt32) ((k + 1) + 1) (nI bn).toInt8.toInt32) (((k + 1) + 1) + 1) (nI n).toInt8.toInt32) (⟨hdi2, by omega, hx4, fun _ => ⟨fun _ z => m1_ne (by omega) z.1, fun _ z => absurd z.2.2 (by omega)⟩⟩) (by omega)
            · exact absurd c_272 (by decide)
          · refine k_iload_n X dX5_delta_202 rfl 1 rfl ?_
            refine k_iload X dX5_delta_203 2 rfl ?_
            refine k_iadd X dX5_delta_205 ?_
            refine k_as (y := nI (t + n)) (nI_add _ _) ?_
            refine k_aload_n X dX5_delta_206 rfl 0 rfl ?_
            refine k_get (v := .int (nI tt)) X 0 5 21 rfl rfl (by decide) fl_X5_169 in_X5 rfl rfl dX5_delta_207 ?_
            refine k_icmp_ge (tgt := 260) (xi := (((t + n) : Nat) : Int)) (yi := ((tt : Nat) : Int)) X (nI_toInt (by omega)) (nI_toInt (by omega)) dX5_delta_210 (by decide) (fun c_210 => ?_) (fun c_210 => ?_)
            · refine k_aload_n X dX5_delta_260 rfl 0 rfl ?_
              refine k_dup X dX5_delta_261 rfl ?_
              refine k_get (v := .int (nI ro)) X 0 5 13 rfl rfl (by decide) fl_X5_166 in_X5 rfl rfl dX5_delta_262 ?_
              refine k_iconst (v := 1) X dX5_delta_265 (by decide) ?_
              refine k_iadd X dX5_delta_266 ?_
              refine k_as (y := nI (ro + 1)) (nI_1 _) ?_
              refine k_put (v := .int (nI (ro + 1))) (ty := .int) (ws' := [(m0, .inr (5, [.ref yb, .ref yz, .ref ye, .int (nI k), .int (nI sz), .int (nI wz), .int (nI bz), .int (nI uS), .int (nI uW), .ref ys, .ref yg, .int (nI rT), .int (nI lT), .int (nI (ro + 1)), .int (nI aT_), .ref yf, .ref yh, .ref yw, .ref yn, .ref yt, .ref yl, .int (nI tt)])), (yb, .inl (cB, 6000, .inl B)), (yz, .inl (cI, 3, .inl (zf ko kn kr))), (ys, .inl (cI, 2000, .inl S)), (yg, .inl (cB, 32000, .inl G)), (yf, .inl (cB, 2112, .inl F1)), (yw, .inl (cI, 16, .inl V1)), (yh, .inl (cI, 4, .inl H1)), (yn, .inl (cI, 64, .inl KN)), (yt, .inl (cI, 16, .inl KT)), (ye, .inl (cB, 8100, .inl E1)), (yl, .inl (cI, 2000, .inl Tt))]) X 0 5 13 tyX5 tyX5_ok nmX5 rfl rfl (by decide) fl_X5_166 in_X5 rfl rfl (by decide +kernel) rfl rfl (Nat.le_of_ble_eq_true rfl) rfl dX5_delta_267 ?_
              refine k_iload X dX5_delta_270 3 rfl ?_
              refine k_if_eq (tgt := 320) (xi := (0 : Int)) X (by decide) dX5_delta_272 (by decide) (fun c_272 => ?_) (fun c_272 => ?_)
              · refine k_aload_n X dX5_delta_320 rfl 0 rfl ?_
                refine k_iconst (v := 1) X dX5_delta_321 (by decide) ?_
                have hE1b : ∀ j, j < k → E1 j = sx (g2 j) := fun j hj => by rw [hE1 j hj, hL.2.2.2.2.1 j hj]
                refine k_callV (wc := [(m0, .inr (5, [.ref yb, .ref yz, .ref ye, .int (nI k), .int (nI sz), .int (nI wz), .int (nI bz), .int (nI uS), .int (nI uW), .ref ys, .ref yg, .int (nI rT), .int (nI lT), .int (nI (ro + 1)), .int (nI aT_), .ref yf, .ref yh, .ref yw, .ref yn, .ref yt, .ref yl, .int (nI tt)])), (ye, .inl (cB, 8100, .inl E1))]) (wr := [(yb, .inl (cB, 6000, .inl B)), (yz, .inl (cI, 3, .inl (zf ko kn kr))), (ys, .inl (cI, 2000, .inl S)), (yg, .inl (cB, 32000, .inl G)), (yf, .inl (cB, 2112, .inl F1)), (yw, .inl (cI, 16, .inl V1)), (yh, .inl (cI, 4, .inl H1)), (yn, .inl (cI, 64, .inl KN)), (yt, .inl (cI, 16, .inl KT)), (yl, .inl (cI, 2000, .inl Tt))]) (As := [.int 1]) (n := 1) (st := []) (q0 := 0) X (m_add l D cI cB m0 yb yz ye ys yg yf yh yw yn yt yl k sz wz bz uS uW rT lT (ro + 1) aT_ tt E1 (1 : Int32) (by omega)) rfl rfl ml_X5_175 im_X5_add se_X5_add ini_X5 co_X5_add (by decide +kernel) rfl ⟨Nat.le_of_ble_eq_true rfl, Nat.le_of_ble_eq_true rfl⟩ (⟨by (try dsimp only); omega, by (try dsimp only); omega⟩) (Nat.le_of_ble_eq_true rfl) [0, 10] [1, 2, 3, 4, 5, 6, 7, 8, 9, 11] rfl rfl rfl (by decide) (by decide) (by decide) rfl dX5_delta_322 (fun v_322 u_322 hu_322 => ?_)
                obtain ⟨rfl, rfl⟩ := hu_322
                refine k_to (ws' := [(yb, .inl (cB, 6000, .inl B)), (yz, .inl (cI, 3, .inl (zf ko kn kr))), (ys, .inl (cI, 2000, .inl S)), (yg, .inl (cB, 32000, .inl G)), (yf, .inl (cB, 2112, .inl F1)), (yw, .inl (cI, 16, .inl V1)), (yh, .inl (cI, 4, .inl H1)), (yn, .inl (cI, 64, .inl KN)), (yt, .inl (cI, 16, .inl KT)), (yl, .inl (cI, 2000, .inl Tt)), (m0, .inr (5, [.ref yb, .ref yz, .ref ye, .int (nI (k + 1)), .int (nI sz), .int (nI wz), .int (nI bz), .int (nI uS), .int (nI uW), .ref ys, .ref yg, .int (nI rT), .int (nI lT), .int (nI (ro + 1)), .int (nI aT_), .ref yf, .ref yh, .ref yw, .ref yn, .ref yt, .ref yl, .int (nI tt)])), (ye, .inl (cB, 8100, .inl (upd E1 k (1 : Int32).toInt8.toInt32)))]) (st' := []) rfl rfl ?_
                have hx1 := agr_add hE1b (by rw [hL.2.2.2.2.2.1]; rfl)
                refine k_aload_n X dX5_delta_325 rfl 0 rfl ?_
                refine k_aload_n X dX5_delta_326 rfl 0 rfl ?_
                refine k_get (v := .ref yl) X 10 5 20 rfl rfl (by decide) fl_X5_118 in_X5 rfl rfl dX5_delta_327 ?_
                refine k_iload_n X dX5_delta_330 rfl 1 rfl ?_
                refine k_iald (v := Tt t) X 9 rfl (vp_in_nI (n := t) (by omega) (by omega)) (by rw [nI_clamp (n := t) (by omega)]) dX5_delta_331 ?_
                refine k_as (y := nI bn) (hT0) ?_
                refine k_bipush (v := 8) X dX5_delta_332 (by decide) ?_
                refine k_ishr X dX5_delta_334 ?_
                refine k_as (y := nI (bn / 256)) (n_shr (by omega) 8 (by decide)) ?_
                refine k_callV (wc := [(m0, .inr (5, [.ref yb, .ref yz, .ref ye, .int (nI (k + 1)), .int (nI sz), .int (nI wz), .int (nI bz), .int (nI uS), .int (nI uW), .ref ys, .ref yg, .int (nI rT), .int (nI lT), .int (nI (ro + 1)), .int (nI aT_), .ref yf, .ref yh, .ref yw, .ref yn, .ref yt, .ref yl, .int (nI tt)])), (ye, .inl (cB, 8100, .inl (upd E1 k (1 : Int32).toInt8.toInt32)))]) (wr := [(yb, .inl (cB, 6000, .inl B)), (yz, .inl (cI, 3, .inl (zf ko kn kr))), (ys, .inl (cI, 2000, .inl S)), (yg, .inl (cB, 32000, .inl G)), (yf, .inl (cB, 2112, .inl F1)), (yw, .inl (cI, 16, .inl V1)), (yh, .inl (cI, 4, .inl H1)), (yn, .inl (cI, 64, .inl KN)), (yt, .inl (cI, 16, .inl KT)), (yl, .inl (cI, 2000, .inl Tt))]) (As := [.int (nI (bn / 256))]) (n := 1) (st := []) (q0 := 0) X (m_add l D cI cB m0 yb yz ye ys yg yf yh yw yn yt yl (k + 1) sz wz bz uS uW rT lT (ro + 1) aT_ tt (upd E1 k (1 : Int32).toInt8.toInt32) (nI (bn / 256)) (by omega)) rfl rfl ml_X5_175 im_X5_add se_X5_add ini_X5 co_X5_add (by decide +kernel) rfl ⟨Nat.le_of_ble_eq_true rfl, Nat.le_of_ble_eq_true rfl⟩ (⟨by (try dsimp only); omega, by (try dsimp only); omega⟩) (Nat.le_of_ble_eq_true rfl) [10, 11] [0, 1, 2, 3, 4, 5, 6, 7, 8, 9] rfl rfl rfl (by decide) (by decide) (by decide) rfl dX5_delta_335 (fun v_335 u_335 hu_335 => ?_)
                obtain ⟨rfl, rfl⟩ := hu_335
                refine k_to (ws' := [(yb, .inl (cB, 6000, .inl B)), (yz, .inl (cI, 3, .inl (zf ko kn kr))), (ys, .inl (cI, 2000, .inl S)), (yg, .inl (cB, 32000, .inl G)), (yf, .inl (cB, 2112, .inl F1)), (yw, .inl (cI, 16, .inl V1)), (yh, .inl (cI, 4, .inl H1)), (yn, .inl (cI, 64, .inl KN)), (yt, .inl (cI, 16, .inl KT)), (yl, .inl (cI, 2000, .inl Tt)), (m0, .inr (5, [.ref yb, .ref yz, .ref ye, .int (nI ((k + 1) + 1)), .int (nI sz), .int (nI wz), .int (nI bz), .int (nI uS), .int (nI uW), .ref ys, .ref yg, .int (nI rT), .int (nI lT), .int (nI (ro + 1)), .int (nI aT_), .ref yf, .ref yh, .ref yw, .ref yn, .ref yt, .ref yl, .int (nI tt)])), (ye, .inl (cB, 8100, .inl (upd (upd E1 k (1 : Int32).toInt8.toInt32) (k + 1) (nI (bn / 256)).toInt8.toInt32)))]) (st' := []) rfl rfl ?_
                have hx2 := agr_add hx1 (by rw [hL.2.2.2.2.2.2.1]; rfl)
                refine k_aload_n X dX5_delta_338 rfl 0 rfl ?_
                refine k_aload_n X dX5_delta_339 rfl 0 rfl ?_
                refine k_get (v := .ref yl) X 10 5 20 rfl rfl (by decide) fl_X5_118 in_X5 rfl rfl dX5_delta_340 ?_
                refine k_iload_n X dX5_delta_343 rfl 1 rfl ?_
                refine k_iald (v := Tt t) X 9 rfl (vp_in_nI (n := t) (by omega) (by omega)) (by rw [nI_clamp (n := t) (by omega)]) dX5_delta_344 ?_
                refine k_as (y := nI bn) (hT0) ?_
                refine k_callV (wc := [(m0, .inr (5, [.ref yb, .ref yz, .ref ye, .int (nI ((k + 1) + 1)), .int (nI sz), .int (nI wz), .int (nI bz), .int (nI uS), .int (nI uW), .ref ys, .ref yg, .int (nI rT), .int (nI lT), .int (nI (ro + 1)), .int (nI aT_), .ref yf, .ref yh, .ref yw, .ref yn, .ref yt, .ref yl, .int (nI tt)])), (ye, .inl (cB, 8100, .inl (upd (upd E1 k (1 : Int32).toInt8.toInt32) (k + 1) (nI (bn / 256)).toInt8.toInt32)))]) (wr := [(yb, .inl (cB, 6000, .inl B)), (yz, .inl (cI, 3, .inl (zf ko kn kr))), (ys, .inl (cI, 2000, .inl S)), (yg, .inl (cB, 32000, .inl G)), (yf, .inl (cB, 2112, .inl F1)), (yw, .inl (cI, 16, .inl V1)), (yh, .inl (cI, 4, .inl H1)), (yn, .inl (cI, 64, .inl KN)), (yt, .inl (cI, 16, .inl KT)), (yl, .inl (cI, 2000, .inl Tt))]) (As := [.int (nI bn)]) (n := 1) (st := []) (q0 := 0) X (m_add l D cI cB m0 yb yz ye ys yg yf yh yw yn yt yl ((k + 1) + 1) sz wz bz uS uW rT lT (ro + 1) aT_ tt (upd (upd E1 k (1 : Int32).toInt8.toInt32) (k + 1) (nI (bn / 256)).toInt8.toInt32) (nI bn) (by omega)) rfl rfl ml_X5_175 im_X5_add se_X5_add ini_X5 co_X5_add (by decide +kernel) rfl ⟨Nat.le_of_ble_eq_true rfl, Nat.le_of_ble_eq_true rfl⟩ (⟨by (try dsimp only); omega, by (try dsimp only); omega⟩) (Nat.le_of_ble_eq_true rfl) [10, 11] [0, 1, 2, 3, 4, 5, 6, 7, 8, 9] rfl rfl rfl (by decide) (by decide) (by decide) rfl dX5_delta_345 (fun v_345 u_345 hu_345 => ?_)
                obtain ⟨rfl, rfl⟩ := hu_345
                refine k_to (ws' := [(yb, .inl (cB, 6000, .inl B)), (yz, .inl (cI, 3, .inl (zf ko kn kr))), (ys, .inl (cI, 2000, .inl S)), (yg, .inl (cB, 32000, .inl G)), (yf, .inl (cB, 2112, .inl F1)), (yw, .inl (cI, 16, .inl V1)), (yh, .inl (cI, 4, .inl H1)), (yn, .inl (cI, 64, .inl KN)), (yt, .inl (cI, 16, .inl KT)), (yl, .inl (cI, 2000, .inl Tt)), (m0, .inr (5, [.ref yb, .ref yz, .ref ye, .int (nI (((k + 1) + 1) + 1)), .int (nI sz), .int (nI wz), .int (nI bz), .int (nI uS), .int (nI uW), .ref ys, .ref yg, .int (nI rT), .int (nI lT), .int (nI (ro + 1)), .int (nI aT_), .ref yf, .ref yh, .ref yw, .ref yn, .ref yt, .ref yl, .int (nI tt)])), (ye, .inl (cB, 8100, .inl (upd (upd (upd E1 k (1 : Int32).toInt8.toInt32) (k + 1) (nI (bn / 256)).toInt8.toInt32) ((k + 1) + 1) (nI bn).toInt8.toInt32)))]) (st' := []) rfl rfl ?_
                have hx3 := agr_add hx2 (by rw [hL.2.2.2.2.2.2.2.1]; exact sx_mod (by omega))
                refine k_aload_n X dX5_delta_348 rfl 0 rfl ?_
                refine k_iload X dX5_delta_349 2 rfl ?_
                refine k_callV (wc := [(m0, .inr (5, [.ref yb, .ref yz, .ref ye, .int (nI (((k + 1) + 1) + 1)), .int (nI sz), .int (nI wz), .int (nI bz), .int (nI uS), .int (nI uW), .ref ys, .ref yg, .int (nI rT), .int (nI lT), .int (nI (ro + 1)), .int (nI aT_), .ref yf, .ref yh, .ref yw, .ref yn, .ref yt, .ref yl, .int (nI tt)])), (ye, .inl (cB, 8100, .inl (upd (upd (upd E1 k (1 : Int32).toInt8.toInt32) (k + 1) (nI (bn / 256)).toInt8.toInt32) ((k + 1) + 1) (nI bn).toInt8.toInt32)))]) (wr := [(yb, .inl (cB, 6000, .inl B)), (yz, .inl (cI, 3, .inl (zf ko kn kr))), (ys, .inl (cI, 2000, .inl S)), (yg, .inl (cB, 32000, .inl G)), (yf, .inl (cB, 2112, .inl F1)), (yw, .inl (cI, 16, .inl V1)), (yh, .inl (cI, 4, .inl H1)), (yn, .inl (cI, 64, .inl KN)), (yt, .inl (cI, 16, .inl KT)), (yl, .inl (cI, 2000, .inl Tt))]) (As := [.int (nI n)]) (n := 1) (st := []) (q0 := 0) X (m_add l D cI cB m0 yb yz ye ys yg yf yh yw yn yt yl (((k + 1) + 1) + 1) sz wz bz uS uW rT lT (ro + 1) aT_ tt (upd (upd (upd E1 k (1 : Int32).toInt8.toInt32) (k + 1) (nI (bn / 256)).toInt8.toInt32) ((k + 1) + 1) (nI bn).toInt8.toInt32) (nI n) (by omega)) rfl rfl ml_X5_175 im_X5_add se_X5_add ini_X5 co_X5_add (by decide +kernel) rfl ⟨Nat.le_of_ble_eq_true rfl, Nat.le_of_ble_eq_true rfl⟩ (⟨by (try dsimp only); omega, by (try dsimp only); omega⟩) (Nat.le_of_ble_eq_true rfl) [10, 11] [0, 1, 2, 3, 4, 5, 6, 7, 8, 9] rfl rfl rfl (by decide) (by decide) (by decide) rfl dX5_delta_351 (fun v_351 u_351 hu_351 => ?_)
                obtain ⟨rfl, rfl⟩ := hu_351
                refine k_to (ws' := [(yb, .inl (cB, 6000, .inl B)), (yz, .inl (cI, 3, .inl (zf ko kn kr))), (ys, .inl (cI, 2000, .inl S)), (yg, .inl (cB, 32000, .inl G)), (yf, .inl (cB, 2112, .inl F1)), (yw, .inl (cI, 16, .inl V1)), (yh, .inl (cI, 4, .inl H1)), (yn, .inl (cI, 64, .inl KN)), (yt, .inl (cI, 16, .inl KT)), (yl, .inl (cI, 2000, .inl Tt)), (m0, .inr (5, [.ref yb, .ref yz, .ref ye, .int (nI ((((k + 1) + 1) + 1) + 1)), .int (nI sz), .int (nI wz), .int (nI bz), .int (nI uS), .int (nI uW), .ref ys, .ref yg, .int (nI rT), .int (nI lT), .int (nI (ro + 1)), .int (nI aT_), .ref yf, .ref yh, .ref yw, .ref yn, .ref yt, .ref yl, .int (nI tt)])), (ye, .inl (cB, 8100, .inl (upd (upd (upd (upd E1 k (1 : Int32).toInt8.toInt32) (k + 1) (nI (bn / 256)).toInt8.toInt32) ((k + 1) + 1) (nI bn).toInt8.toInt32) (((k + 1) + 1) + 1) (nI n).toInt8.toInt32)))]) (st' := []) rfl rfl ?_
                have hx4 := agr_add hx3 (by rw [hL.2.2.2.2.2.2.2.2]; rfl)
                refine k_ws (ws' := [(yb, .inl (cB, 6000, .inl B)), (yz, .inl (cI, 3, .inl (zf ko kn kr))), (ys, .inl (cI, 2000, .inl S)), (yg, .inl (cB, 32000, .inl G)), (yf, .inl (cB, 2112, .inl F1)), (yw, .inl (cI, 16, .inl V1)), (yh, .inl (cI, 4, .inl H1)), (yn, .inl (cI, 64, .inl KN)), (yt, .inl (cI, 16, .inl KT)), (yl, .inl (cI, 2000, .inl Tt)), (m0, .inr (5, [.ref yb, .ref yz, .ref ye, .int (nI (k + 4)), .int (nI sz), .int (nI wz), .int (nI bz), .int (nI uS), .int (nI uW), .ref ys, .ref yg, .int (nI rT), .int (nI lT), .int (nI (ro + 1)), .int (nI aT_), .ref yf, .ref yh, .ref yw, .ref yn, .ref yt, .ref yl, .int (nI tt)])), (ye, .inl (cB, 8100, .inl (upd (upd (upd (upd E1 k (1 : Int32).toInt8.toInt32) (k + 1) (nI (bn / 256)).toInt8.toInt32) ((k + 1) + 1) (nI bn).toInt8.toInt32) (((k + 1) + 1) + 1) (nI n).toInt8.toInt32)))]) rfl ?_
                refine k_iload_n X dX5_delta_354 rfl 1 rfl ?_
                refine k_iload X dX5_delta_355 2 rfl ?_
                refine k_iadd X dX5_delta_357 ?_
                refine k_as (y := nI (t + n)) (nI_add _ _) ?_
                refine k_istore_n (lv' := [(3, .int (nI (t + n))), (0, .ref m0), (4, .int (nI n)), (5, .int 0)]) X dX5_delta_358 rfl (by decide) rfl ?_
                refine k_goto (tgt := 167) X dX5_delta_359 (by decide) ?_
                refine k_lv (lv' := [(0, .ref m0), (3, .int (nI (t + n)))]) [1, 0] rfl ?_
                refine k_sub (ws' := [(m0, .inr (5, [.ref yb, .ref yz, .ref ye, .int (nI (k + 4)), .int (nI sz), .int (nI wz), .int (nI bz), .int (nI uS), .int (nI uW), .ref ys, .ref yg, .int (nI rT), .int (nI lT), .int (nI (ro + 1)), .int (nI aT_), .ref yf, .ref yh, .ref yw, .ref yn, .ref yt, .ref yl, .int (nI tt)])), (yb, .inl (cB, 6000, .inl B)), (yz, .inl (cI, 3, .inl (zf ko kn kr))), (ys, .inl (cI, 2000, .inl S)), (yg, .inl (cB, 32000, .inl G)), (yf, .inl (cB, 2112, .inl F1)), (yw, .inl (cI, 16, .inl V1)), (yh, .inl (cI, 4, .inl H1)), (yn, .inl (cI, 64, .inl KN)), (yt, .inl (cI, 16, .inl KT)), (ye, .inl (cB, 8100, .inl (upd (upd (upd (upd E1 k (1 : Int32).toInt8.toInt32) (k + 1) (nI (bn / 256)).toInt8.toInt32) ((k + 1) + 1) (nI bn).toInt8.toInt32) (((k + 1) + 1) + 1) (nI n).toInt8.toInt32))), (yl, .inl (cI, 2000, .inl Tt))]) [10, 0, 1, 2, 3, 4, 5, 6, 7, 8, 11, 9] (by decide) rfl rfl ?_
                refine k_wide (k := 0) (n := 0) (by (try dsimp only); omega) (by (try dsimp only); omega) ?_
                exact kh (t + n) p2 (nI (bn + n - 1)) rf2 lt2 al2 (k + 4) g2 (ro + 1) n (k + 3) (upd (upd (upd (upd E1 k (1 : Int32).toInt8.toInt32) (k + 1) (nI (bn / 256)).toInt8.toInt32) ((k + 1) + 1) (nI bn).toInt8.toInt32) (((k + 1) + 1) + 1) (nI n).toInt8.toInt32) (⟨hdi2, by omega, hx4, fun z => absurd z (by omega)⟩) (by omega)
              · exact absurd c_272 (by decide)
            · refine k_iload X dX5_delta_213 3 rfl ?_
              refine k_if_eq (tgt := 233) (xi := (0 : Int)) X (by decide) dX5_delta_215 (by decide) (fun c_215 => ?_) (fun c_215 => ?_)
              · refine k_aload_n X dX5_delta_233 rfl 0 rfl ?_
                refine k_get (v := .ref yl) X 0 5 20 rfl rfl (by decide) fl_X5_118 in_X5 rfl rfl dX5_delta_234 ?_
                refine k_iload_n X dX5_delta_237 rfl 1 rfl ?_
                refine k_iload X dX5_delta_238 2 rfl ?_
                refine k_iadd X dX5_delta_240 ?_
                refine k_as (y := nI (t + n)) (nI_add _ _) ?_
                refine k_iald (v := Tt (t + n)) X 11 rfl (vp_in_nI (n := t + n) (by omega) (by omega)) (by rw [nI_clamp (n := t + n) (by omega)]) dX5_delta_241 ?_
                have hlive2 : p2 < kn := by have := hlv (t + n) (by omega); rw [hdi2] at this; exact this
                have htv2 := hTk (t + n) (by omega)
                rcases tB_cases f kn uS uW bz S G p2 (nI (bn + n - 1)) with htB2 | ⟨hpb2, bm, hbm, htB2⟩
                · have hT2 : Tt (t + n) = -1 - f p2 := by rw [htv2, tkV, hdi2, if_pos htB2]
                  refine k_as (y := -1 - f p2) (hT2) ?_
                  have hti2 := tok_int (hby p2 hlive2)
                  have hbp2 := hby p2 hlive2
                  refine k_aload_n X dX5_delta_242 rfl 0 rfl ?_
                  refine k_get (v := .ref yl) X 0 5 20 rfl rfl (by decide) fl_X5_118 in_X5 rfl rfl dX5_delta_243 ?_
                  refine k_iload_n X dX5_delta_246 rfl 1 rfl ?_
                  refine k_iald (v := Tt t) X 11 rfl (vp_in_nI (n := t) (by omega) (by omega)) (by rw [nI_clamp (n := t) (by omega)]) dX5_delta_247 ?_
                  refine k_as (y := nI bn) (hT0) ?_
                  refine k_iload X dX5_delta_248 2 rfl ?_
                  refine k_iadd X dX5_delta_250 ?_
                  refine k_as (y := nI (bn + n)) (nI_add _ _) ?_
                  refine k_icmp_ne (tgt := 260) (xi := -1 - (f p2).toInt) (yi := (((bn + n) : Nat) : Int)) X (hti2) (nI_toInt (by omega)) dX5_delta_251 (by decide) (fun c_251 => ?_) (fun c_251 => ?_)
                  · refine k_aload_n X dX5_delta_260 rfl 0 rfl ?_
                    refine k_dup X dX5_delta_261 rfl ?_
                    refine k_get (v := .int (nI ro)) X 0 5 13 rfl rfl (by decide) fl_X5_166 in_X5 rfl rfl dX5_delta_262 ?_
                    refine k_iconst (v := 1) X dX5_delta_265 (by decide) ?_
                    refine k_iadd X dX5_delta_266 ?_
                    refine k_as (y := nI (ro + 1)) (nI_1 _) ?_
                    refine k_put (v := .int (nI (ro + 1))) (ty := .int) (ws' := [(m0, .inr (5, [.ref yb, .ref yz, .ref ye, .int (nI k), .int (nI sz), .int (nI wz), .int (nI bz), .int (nI uS), .int (nI uW), .ref ys, .ref yg, .int (nI rT), .int (nI lT), .int (nI (ro + 1)), .int (nI aT_), .ref yf, .ref yh, .ref yw, .ref yn, .ref yt, .ref yl, .int (nI tt)])), (yb, .inl (cB, 6000, .inl B)), (yz, .inl (cI, 3, .inl (zf ko kn kr))), (ys, .inl (cI, 2000, .inl S)), (yg, .inl (cB, 32000, .inl G)), (yf, .inl (cB, 2112, .inl F1)), (yw, .inl (cI, 16, .inl V1)), (yh, .inl (cI, 4, .inl H1)), (yn, .inl (cI, 64, .inl KN)), (yt, .inl (cI, 16, .inl KT)), (ye, .inl (cB, 8100, .inl E1)), (yl, .inl (cI, 2000, .inl Tt))]) X 0 5 13 tyX5 tyX5_ok nmX5 rfl rfl (by decide) fl_X5_166 in_X5 rfl rfl (by decide +kernel) rfl rfl (Nat.le_of_ble_eq_true rfl) rfl dX5_delta_267 ?_
                    refine k_iload X dX5_delta_270 3 rfl ?_
                    refine k_if_eq (tgt := 320) (xi := (0 : Int)) X (by decide) dX5_delta_272 (by decide) (fun c_272 => ?_) (fun c_272 => ?_)
                    · refine k_aload_n X dX5_delta_320 rfl 0 rfl ?_
                      refine k_iconst (v := 1) X dX5_delta_321 (by decide) ?_
                      have hE1b : ∀ j, j < k → E1 j = sx (g2 j) := fun j hj => by rw [hE1 j hj, hL.2.2.2.2.1 j hj]
                      refine k_callV (wc := [(m0, .inr (5, [.ref yb, .ref yz, .ref ye, .int (nI k), .int (nI sz), .int (nI wz), .int (nI bz), .int (nI uS), .int (nI uW), .ref ys, .ref yg, .int (nI rT), .int (nI lT), .int (nI (ro + 1)), .int (nI aT_), .ref yf, .ref yh, .ref yw, .ref yn, .ref yt, .ref yl, .int (nI tt)])), (ye, .inl (cB, 8100, .inl E1))]) (wr := [(yb, .inl (cB, 6000, .inl B)), (yz, .inl (cI, 3, .inl (zf ko kn kr))), (ys, .inl (cI, 2000, .inl S)), (yg, .inl (cB, 32000, .inl G)), (yf, .inl (cB, 2112, .inl F1)), (yw, .inl (cI, 16, .inl V1)), (yh, .inl (cI, 4, .inl H1)), (yn, .inl (cI, 64, .inl KN)), (yt, .inl (cI, 16, .inl KT)), (yl, .inl (cI, 2000, .inl Tt))]) (As := [.int 1]) (n := 1) (st := []) (q0 := 0) X (m_add l D cI cB m0 yb yz ye ys yg yf yh yw yn yt yl k sz wz bz uS uW rT lT (ro + 1) aT_ tt E1 (1 : Int32) (by omega)) rfl rfl ml_X5_175 im_X5_add se_X5_add ini_X5 co_X5_add (by decide +kernel) rfl ⟨Nat.le_of_ble_eq_true rfl, Nat.le_of_ble_eq_true rfl⟩ (⟨by (try dsimp only); omega, by (try dsimp only); omega⟩) (Nat.le_of_ble_eq_true rfl) [0, 10] [1, 2, 3, 4, 5, 6, 7, 8, 9, 11] rfl rfl rfl (by decide) (by decide) (by decide) rfl dX5_delta_322 (fun v_322 u_322 hu_322 => ?_)
                      obtain ⟨rfl, rfl⟩ := hu_322
                      refine k_to (ws' := [(yb, .inl (cB, 6000, .inl B)), (yz, .inl (cI, 3, .inl (zf ko kn kr))), (ys, .inl (cI, 2000, .inl S)), (yg, .inl (cB, 32000, .inl G)), (yf, .inl (cB, 2112, .inl F1)), (yw, .inl (cI, 16, .inl V1)), (yh, .inl (cI, 4, .inl H1)), (yn, .inl (cI, 64, .inl KN)), (yt, .inl (cI, 16, .inl KT)), (yl, .inl (cI, 2000, .inl Tt)), (m0, .inr (5, [.ref yb, .ref yz, .ref ye, .int (nI (k + 1)), .int (nI sz), .int (nI wz), .int (nI bz), .int (nI uS), .int (nI uW), .ref ys, .ref yg, .int (nI rT), .int (nI lT), .int (nI (ro + 1)), .int (nI aT_), .ref yf, .ref yh, .ref yw, .ref yn, .ref yt, .ref yl, .int (nI tt)])), (ye, .inl (cB, 8100, .inl (upd E1 k (1 : Int32).toInt8.toInt32)))]) (st' := []) rfl rfl ?_
                      have hx1 := agr_add hE1b (by rw [hL.2.2.2.2.2.1]; rfl)
                      refine k_aload_n X dX5_delta_325 rfl 0 rfl ?_
                      refine k_aload_n X dX5_delta_326 rfl 0 rfl ?_
                      refine k_get (v := .ref yl) X 10 5 20 rfl rfl (by decide) fl_X5_118 in_X5 rfl rfl dX5_delta_327 ?_
                      refine k_iload_n X dX5_delta_330 rfl 1 rfl ?_
                      refine k_iald (v := Tt t) X 9 rfl (vp_in_nI (n := t) (by omega) (by omega)) (by rw [nI_clamp (n := t) (by omega)]) dX5_delta_331 ?_
                      refine k_as (y := nI bn) (hT0) ?_
                      refine k_bipush (v := 8) X dX5_delta_332 (by decide) ?_
                      refine k_ishr X dX5_delta_334 ?_
                      refine k_as (y := nI (bn / 256)) (n_shr (by omega) 8 (by decide)) ?_
                      refine k_callV (wc := [(m0, .inr (5, [.ref yb, .ref yz, .ref ye, .int (nI (k + 1)), .int (nI sz), .int (nI wz), .int (nI bz), .int (nI uS), .int (nI uW), .ref ys, .ref yg, .int (nI rT), .int (nI lT), .int (nI (ro + 1)), .int (nI aT_), .ref yf, .ref yh, .ref yw, .ref yn, .ref yt, .ref yl, .int (nI tt)])), (ye, .inl (cB, 8100, .inl (upd E1 k (1 : Int32).toInt8.toInt32)))]) (wr := [(yb, .inl (cB, 6000, .inl B)), (yz, .inl (cI, 3, .inl (zf ko kn kr))), (ys, .inl (cI, 2000, .inl S)), (yg, .inl (cB, 32000, .inl G)), (yf, .inl (cB, 2112, .inl F1)), (yw, .inl (cI, 16, .inl V1)), (yh, .inl (cI, 4, .inl H1)), (yn, .inl (cI, 64, .inl KN)), (yt, .inl (cI, 16, .inl KT)), (yl, .inl (cI, 2000, .inl Tt))]) (As := [.int (nI (bn / 256))]) (n := 1) (st := []) (q0 := 0) X (m_add l D cI cB m0 yb yz ye ys yg yf yh yw yn yt yl (k + 1) sz wz bz uS uW rT lT (ro + 1) aT_ tt (upd E1 k (1 : Int32).toInt8.toInt32) (nI (bn / 256)) (by omega)) rfl rfl ml_X5_175 im_X5_add se_X5_add ini_X5 co_X5_add (by decide +kernel) rfl ⟨Nat.le_of_ble_eq_true rfl, Nat.le_of_ble_eq_true rfl⟩ (⟨by (try dsimp only); omega, by (try dsimp only); omega⟩) (Nat.le_of_ble_eq_true rfl) [10, 11] [0, 1, 2, 3, 4, 5, 6, 7, 8, 9] rfl rfl rfl (by decide) (by decide) (by decide) rfl dX5_delta_335 (fun v_335 u_335 hu_335 => ?_)
                      obtain ⟨rfl, rfl⟩ := hu_335
                      refine k_to (ws' := [(yb, .inl (cB, 6000, .inl B)), (yz, .inl (cI, 3, .inl (zf ko kn kr))), (ys, .inl (cI, 2000, .inl S)), (yg, .inl (cB, 32000, .inl G)), (yf, .inl (cB, 2112, .inl F1)), (yw, .inl (cI, 16, .inl V1)), (yh, .inl (cI, 4, .inl H1)), (yn, .inl (cI, 64, .inl KN)), (yt, .inl (cI, 16, .inl KT)), (yl, .inl (cI, 2000, .inl Tt)), (m0, .inr (5, [.ref yb, .ref yz, .ref ye, .int (nI ((k + 1) + 1)), .int (nI sz), .int (nI wz), .int (nI bz), .int (nI uS), .int (nI uW), .ref ys, .ref yg, .int (nI rT), .int (nI lT), .int (nI (ro + 1)), .int (nI aT_), .ref yf, .ref yh, .ref yw, .ref yn, .ref yt, .ref yl, .int (nI tt)])), (ye, .inl (cB, 8100, .inl (upd (upd E1 k (1 : Int32).toInt8.toInt32) (k + 1) (nI (bn / 256)).toInt8.toInt32)))]) (st' := []) rfl rfl ?_
                      have hx2 := agr_add hx1 (by rw [hL.2.2.2.2.2.2.1]; rfl)
                      refine k_aload_n X dX5_delta_338 rfl 0 rfl ?_
                      refine k_aload_n X dX5_delta_339 rfl 0 rfl ?_
                      refine k_get (v := .ref yl) X 10 5 20 rfl rfl (by decide) fl_X5_118 in_X5 rfl rfl dX5_delta_340 ?_
                      refine k_iload_n X dX5_delta_343 rfl 1 rfl ?_
                      refine k_iald (v := Tt t) X 9 rfl (vp_in_nI (n := t) (by omega) (by omega)) (by rw [nI_clamp (n := t) (by omega)]) dX5_delta_344 ?_
                      refine k_as (y := nI bn) (hT0) ?_
                      refine k_callV (wc := [(m0, .inr (5, [.ref yb, .ref yz, .ref ye, .int (nI ((k + 1) + 1)), .int (nI sz), .int (nI wz), .int (nI bz), .int (nI uS), .int (nI uW), .ref ys, .ref yg, .int (nI rT), .int (nI lT), .int (nI (ro + 1)), .int (nI aT_), .ref yf, .ref yh, .ref yw, .ref yn, .ref yt, .ref yl, .int (nI tt)])), (ye, .inl (cB, 8100, .inl (upd (upd E1 k (1 : Int32).toInt8.toInt32) (k + 1) (nI (bn / 256)).toInt8.toInt32)))]) (wr := [(yb, .inl (cB, 6000, .inl B)), (yz, .inl (cI, 3, .inl (zf ko kn kr))), (ys, .inl (cI, 2000, .inl S)), (yg, .inl (cB, 32000, .inl G)), (yf, .inl (cB, 2112, .inl F1)), (yw, .inl (cI, 16, .inl V1)), (yh, .inl (cI, 4, .inl H1)), (yn, .inl (cI, 64, .inl KN)), (yt, .inl (cI, 16, .inl KT)), (yl, .inl (cI, 2000, .inl Tt))]) (As := [.int (nI bn)]) (n := 1) (st := []) (q0 := 0) X (m_add l D cI cB m0 yb yz ye ys yg yf yh yw yn yt yl ((k + 1) + 1) sz wz bz uS uW rT lT (ro + 1) aT_ tt (upd (upd E1 k (1 : Int32).toInt8.toInt32) (k + 1) (nI (bn / 256)).toInt8.toInt32) (nI bn) (by omega)) rfl rfl ml_X5_175 im_X5_add se_X5_add ini_X5 co_X5_add (by decide +kernel) rfl ⟨Nat.le_of_ble_eq_true rfl, Nat.le_of_ble_eq_true rfl⟩ (⟨by (try dsimp only); omega, by (try dsimp only); omega⟩) (Nat.le_of_ble_eq_true rfl) [10, 11] [0, 1, 2, 3, 4, 5, 6, 7, 8, 9] rfl rfl rfl (by decide) (by decide) (by decide) rfl dX5_delta_345 (fun v_345 u_345 hu_345 => ?_)
                      obtain ⟨rfl, rfl⟩ := hu_345
                      refine k_to (ws' := [(yb, .inl (cB, 6000, .inl B)), (yz, .inl (cI, 3, .inl (zf ko kn kr))), (ys, .inl (cI, 2000, .inl S)), (yg, .inl (cB, 32000, .inl G)), (yf, .inl (cB, 2112, .inl F1)), (yw, .inl (cI, 16, .inl V1)), (yh, .inl (cI, 4, .inl H1)), (yn, .inl (cI, 64, .inl KN)), (yt, .inl (cI, 16, .inl KT)), (yl, .inl (cI, 2000, .inl Tt)), (m0, .inr (5, [.ref yb, .ref yz, .ref ye, .int (nI (((k + 1) + 1) + 1)), .int (nI sz), .int (nI wz), .int (nI bz), .int (nI uS), .int (nI uW), .ref ys, .ref yg, .int (nI rT), .int (nI lT), .int (nI (ro + 1)), .int (nI aT_), .ref yf, .ref yh, .ref yw, .ref yn, .ref yt, .ref yl, .int (nI tt)])), (ye, .inl (cB, 8100, .inl (upd (upd (upd E1 k (1 : Int32).toInt8.toInt32) (k + 1) (nI (bn / 256)).toInt8.toInt32) ((k + 1) + 1) (nI bn).toInt8.toInt32)))]) (st' := []) rfl rfl ?_
                      have hx3 := agr_add hx2 (by rw [hL.2.2.2.2.2.2.2.1]; exact sx_mod (by omega))
                      refine k_aload_n X dX5_delta_348 rfl 0 rfl ?_
                      refine k_iload X dX5_delta_349 2 rfl ?_
                      refine k_callV (wc := [(m0, .inr (5, [.ref yb, .ref yz, .ref ye, .int (nI (((k + 1) + 1) + 1)), .int (nI sz), .int (nI wz), .int (nI bz), .int (nI uS), .int (nI uW), .ref ys, .ref yg, .int (nI rT), .int (nI lT), .int (nI (ro + 1)), .int (nI aT_), .ref yf, .ref yh, .ref yw, .ref yn, .ref yt, .ref yl, .int (nI tt)])), (ye, .inl (cB, 8100, .inl (upd (upd (upd E1 k (1 : Int32).toInt8.toInt32) (k + 1) (nI (bn / 256)).toInt8.toInt32) ((k + 1) + 1) (nI bn).toInt8.toInt32)))]) (wr := [(yb, .inl (cB, 6000, .inl B)), (yz, .inl (cI, 3, .inl (zf ko kn kr))), (ys, .inl (cI, 2000, .inl S)), (yg, .inl (cB, 32000, .inl G)), (yf, .inl (cB, 2112, .inl F1)), (yw, .inl (cI, 16, .inl V1)), (yh, .inl (cI, 4, .inl H1)), (yn, .inl (cI, 64, .inl KN)), (yt, .inl (cI, 16, .inl KT)), (yl, .inl (cI, 2000, .inl Tt))]) (As := [.int (nI n)]) (n := 1) (st := []) (q0 := 0) X (m_add l D cI cB m0 yb yz ye ys yg yf yh yw yn yt yl (((k + 1) + 1) + 1) sz wz bz uS uW rT lT (ro + 1) aT_ tt (upd (upd (upd E1 k (1 : Int32).toInt8.toInt32) (k + 1) (nI (bn / 256)).toInt8.toInt32) ((k + 1) + 1) (nI bn).toInt8.toInt32) (nI n) (by omega)) rfl rfl ml_X5_175 im_X5_add se_X5_add ini_X5 co_X5_add (by decide +kernel) rfl ⟨Nat.le_of_ble_eq_true rfl, Nat.le_of_ble_eq_true rfl⟩ (⟨by (try dsimp only); omega, by (try dsimp only); omega⟩) (Nat.le_of_ble_eq_true rfl) [10, 11] [0, 1, 2, 3, 4, 5, 6, 7, 8, 9] rfl rfl rfl (by decide) (by decide) (by decide) rfl dX5_delta_351 (fun v_351 u_351 hu_351 => ?_)
                      obtain ⟨rfl, rfl⟩ := hu_351
                      refine k_to (ws' := [(yb, .inl (cB, 6000, .inl B)), (yz, .inl (cI, 3, .inl (zf ko kn kr))), (ys, .inl (cI, 2000, .inl S)), (yg, .inl (cB, 32000, .inl G)), (yf, .inl (cB, 2112, .inl F1)), (yw, .inl (cI, 16, .inl V1)), (yh, .inl (cI, 4, .inl H1)), (yn, .inl (cI, 64, .inl KN)), (yt, .inl (cI, 16, .inl KT)), (yl, .inl (cI, 2000, .inl Tt)), (m0, .inr (5, [.ref yb, .ref yz, .ref ye, .int (nI ((((k + 1) + 1) + 1) + 1)), .int (nI sz), .int (nI wz), .int (nI bz), .int (nI uS), .int (nI uW), .ref ys, .ref yg, .int (nI rT), .int (nI lT), .int (nI (ro + 1)), .int (nI aT_), .ref yf, .ref yh, .ref yw, .ref yn, .ref yt, .ref yl, .int (nI tt)])), (ye, .inl (cB, 8100, .inl (upd (upd (upd (upd E1 k (1 : Int32).toInt8.toInt32) (k + 1) (nI (bn / 256)).toInt8.toInt32) ((k + 1) + 1) (nI bn).toInt8.toInt32) (((k + 1) + 1) + 1) (nI n).toInt8.toInt32)))]) (st' := []) rfl rfl ?_
                      have hx4 := agr_add hx3 (by rw [hL.2.2.2.2.2.2.2.2]; rfl)
                      refine k_ws (ws' := [(yb, .inl (cB, 6000, .inl B)), (yz, .inl (cI, 3, .inl (zf ko kn kr))), (ys, .inl (cI, 2000, .inl S)), (yg, .inl (cB, 32000, .inl G)), (yf, .inl (cB, 2112, .inl F1)), (yw, .inl (cI, 16, .inl V1)), (yh, .inl (cI, 4, .inl H1)), (yn, .inl (cI, 64, .inl KN)), (yt, .inl (cI, 16, .inl KT)), (yl, .inl (cI, 2000, .inl Tt)), (m0, .inr (5, [.ref yb, .ref yz, .ref ye, .int (nI (k + 4)), .int (nI sz), .int (nI wz), .int (nI bz), .int (nI uS), .int (nI uW), .ref ys, .ref yg, .int (nI rT), .int (nI lT), .int (nI (ro + 1)), .int (nI aT_), .ref yf, .ref yh, .ref yw, .ref yn, .ref yt, .ref yl, .int (nI tt)])), (ye, .inl (cB, 8100, .inl (upd (upd (upd (upd E1 k (1 : Int32).toInt8.toInt32) (k + 1) (nI (bn / 256)).toInt8.toInt32) ((k + 1) + 1) (nI bn).toInt8.toInt32) (((k + 1) + 1) + 1) (nI n).toInt8.toInt32)))]) rfl ?_
                      refine k_iload_n X dX5_delta_354 rfl 1 rfl ?_
                      refine k_iload X dX5_delta_355 2 rfl ?_
                      refine k_iadd X dX5_delta_357 ?_
                      refine k_as (y := nI (t + n)) (nI_add _ _) ?_
                      refine k_istore_n (lv' := [(3, .int (nI (t + n))), (0, .ref m0), (4, .int (nI n)), (5, .int 0)]) X dX5_delta_358 rfl (by decide) rfl ?_
                      refine k_goto (tgt := 167) X dX5_delta_359 (by decide) ?_
                      refine k_lv (lv' := [(0, .ref m0), (3, .int (nI (t + n)))]) [1, 0] rfl ?_
                      refine k_sub (ws' := [(m0, .inr (5, [.ref yb, .ref yz, .ref ye, .int (nI (k + 4)), .int (nI sz), .int (nI wz), .int (nI bz), .int (nI uS), .int (nI uW), .ref ys, .ref yg, .int (nI rT), .int (nI lT), .int (nI (ro + 1)), .int (nI aT_), .ref yf, .ref yh, .ref yw, .ref yn, .ref yt, .ref yl, .int (nI tt)])), (yb, .inl (cB, 6000, .inl B)), (yz, .inl (cI, 3, .inl (zf ko kn kr))), (ys, .inl (cI, 2000, .inl S)), (yg, .inl (cB, 32000, .inl G)), (yf, .inl (cB, 2112, .inl F1)), (yw, .inl (cI, 16, .inl V1)), (yh, .inl (cI, 4, .inl H1)), (yn, .inl (cI, 64, .inl KN)), (yt, .inl (cI, 16, .inl KT)), (ye, .inl (cB, 8100, .inl (upd (upd (upd (upd E1 k (1 : Int32).toInt8.toInt32) (k + 1) (nI (bn / 256)).toInt8.toInt32) ((k + 1) + 1) (nI bn).toInt8.toInt32) (((k + 1) + 1) + 1) (nI n).toInt8.toInt32))), (yl, .inl (cI, 2000, .inl Tt))]) [10, 0, 1, 2, 3, 4, 5, 6, 7, 8, 11, 9] (by decide) rfl rfl ?_
                      refine k_wide (k := 0) (n := 0) (by (try dsimp only); omega) (by (try dsimp only); omega) ?_
                      exact kh (t + n) p2 (nI (bn + n - 1)) rf2 lt2 al2 (k + 4) g2 (ro + 1) n (k + 3) (upd (upd (upd (upd E1 k (1 : Int32).toInt8.toInt32) (k + 1) (nI (bn / 256)).toInt8.toInt32) ((k + 1) + 1) (nI bn).toInt8.toInt32) (((k + 1) + 1) + 1) (nI n).toInt8.toInt32) (⟨hdi2, by omega, hx4, fun _ => ⟨fun _ z => m1_ne (by omega) z.1, fun z => absurd htB2 z⟩⟩) (by omega)
                    · exact absurd c_272 (by decide)
                  · exact absurd c_251 (tok_ne hbp2)
                · have hne2 : ¬ tB f kn uS uW bz S G p2 (nI (bn + n - 1)) = -1 := by rw [htB2]; exact m1_ne (by omega)
                  have hT2 : Tt (t + n) = nI bm := by rw [htv2, tkV, hdi2, if_neg hne2, htB2]
                  refine k_as (y := nI bm) (hT2) ?_
                  refine k_aload_n X dX5_delta_242 rfl 0 rfl ?_
                  refine k_get (v := .ref yl) X 0 5 20 rfl rfl (by decide) fl_X5_118 in_X5 rfl rfl dX5_delta_243 ?_
                  refine k_iload_n X dX5_delta_246 rfl 1 rfl ?_
                  refine k_iald (v := Tt t) X 11 rfl (vp_in_nI (n := t) (by omega) (by omega)) (by rw [nI_clamp (n := t) (by omega)]) dX5_delta_247 ?_
                  refine k_as (y := nI bn) (hT0) ?_
                  refine k_iload X dX5_delta_248 2 rfl ?_
                  refine k_iadd X dX5_delta_250 ?_
                  refine k_as (y := nI (bn + n)) (nI_add _ _) ?_
                  refine k_icmp_ne (tgt := 260) (xi := ((bm : Nat) : Int)) (yi := (((bn + n) : Nat) : Int)) X (nI_toInt (by omega)) (nI_toInt (by omega)) dX5_delta_251 (by decide) (fun c_251 => ?_) (fun c_251 => ?_)
                  · refine k_aload_n X dX5_delta_260 rfl 0 rfl ?_
                    refine k_dup X dX5_delta_261 rfl ?_
                    refine k_get (v := .int (nI ro)) X 0 5 13 rfl rfl (by decide) fl_X5_166 in_X5 rfl rfl dX5_delta_262 ?_
                    refine k_iconst (v := 1) X dX5_delta_265 (by decide) ?_
                    refine k_iadd X dX5_delta_266 ?_
                    refine k_as (y := nI (ro + 1)) (nI_1 _) ?_
                    refine k_put (v := .int (nI (ro + 1))) (ty := .int) (ws' := [(m0, .inr (5, [.ref yb, .ref yz, .ref ye, .int (nI k), .int (nI sz), .int (nI wz), .int (nI bz), .int (nI uS), .int (nI uW), .ref ys, .ref yg, .int (nI rT), .int (nI lT), .int (nI (ro + 1)), .int (nI aT_), .ref yf, .ref yh, .ref yw, .ref yn, .ref yt, .ref yl, .int (nI tt)])), (yb, .inl (cB, 6000, .inl B)), (yz, .inl (cI, 3, .inl (zf ko kn kr))), (ys, .inl (cI, 2000, .inl S)), (yg, .inl (cB, 32000, .inl G)), (yf, .inl (cB, 2112, .inl F1)), (yw, .inl (cI, 16, .inl V1)), (yh, .inl (cI, 4, .inl H1)), (yn, .inl (cI, 64, .inl KN)), (yt, .inl (cI, 16, .inl KT)), (ye, .inl (cB, 8100, .inl E1)), (yl, .inl (cI, 2000, .inl Tt))]) X 0 5 13 tyX5 tyX5_ok nmX5 rfl rfl (by decide) fl_X5_166 in_X5 rfl rfl (by decide +kernel) rfl rfl (Nat.le_of_ble_eq_true rfl) rfl dX5_delta_267 ?_
                    refine k_iload X dX5_delta_270 3 rfl ?_
                    refine k_if_eq (tgt := 320) (xi := (0 : Int)) X (by decide) dX5_delta_272 (by decide) (fun c_272 => ?_) (fun c_272 => ?_)
                    · refine k_aload_n X dX5_delta_320 rfl 0 rfl ?_
                      refine k_iconst (v := 1) X dX5_delta_321 (by decide) ?_
                      have hE1b : ∀ j, j < k → E1 j = sx (g2 j) := fun j hj => by rw [hE1 j hj, hL.2.2.2.2.1 j hj]
                      refine k_callV (wc := [(m0, .inr (5, [.ref yb, .ref yz, .ref ye, .int (nI k), .int (nI sz), .int (nI wz), .int (nI bz), .int (nI uS), .int (nI uW), .ref ys, .ref yg, .int (nI rT), .int (nI lT), .int (nI (ro + 1)), .int (nI aT_), .ref yf, .ref yh, .ref yw, .ref yn, .ref yt, .ref yl, .int (nI tt)])), (ye, .inl (cB, 8100, .inl E1))]) (wr := [(yb, .inl (cB, 6000, .inl B)), (yz, .inl (cI, 3, .inl (zf ko kn kr))), (ys, .inl (cI, 2000, .inl S)), (yg, .inl (cB, 32000, .inl G)), (yf, .inl (cB, 2112, .inl F1)), (yw, .inl (cI, 16, .inl V1)), (yh, .inl (cI, 4, .inl H1)), (yn, .inl (cI, 64, .inl KN)), (yt, .inl (cI, 16, .inl KT)), (yl, .inl (cI, 2000, .inl Tt))]) (As := [.int 1]) (n := 1) (st := []) (q0 := 0) X (m_add l D cI cB m0 yb yz ye ys yg yf yh yw yn yt yl k sz wz bz uS uW rT lT (ro + 1) aT_ tt E1 (1 : Int32) (by omega)) rfl rfl ml_X5_175 im_X5_add se_X5_add ini_X5 co_X5_add (by decide +kernel) rfl ⟨Nat.le_of_ble_eq_true rfl, Nat.le_of_ble_eq_true rfl⟩ (⟨by (try dsimp only); omega, by (try dsimp only); omega⟩) (Nat.le_of_ble_eq_true rfl) [0, 10] [1, 2, 3, 4, 5, 6, 7, 8, 9, 11] rfl rfl rfl (by decide) (by decide) (by decide) rfl dX5_delta_322 (fun v_322 u_322 hu_322 => ?_)
                      obtain ⟨rfl, rfl⟩ := hu_322
                      refine k_to (ws' := [(yb, .inl (cB, 6000, .inl B)), (yz, .inl (cI, 3, .inl (zf ko kn kr))), (ys, .inl (cI, 2000, .inl S)), (yg, .inl (cB, 32000, .inl G)), (yf, .inl (cB, 2112, .inl F1)), (yw, .inl (cI, 16, .inl V1)), (yh, .inl (cI, 4, .inl H1)), (yn, .inl (cI, 64, .inl KN)), (yt, .inl (cI, 16, .inl KT)), (yl, .inl (cI, 2000, .inl Tt)), (m0, .inr (5, [.ref yb, .ref yz, .ref ye, .int (nI (k + 1)), .int (nI sz), .int (nI wz), .int (nI bz), .int (nI uS), .int (nI uW), .ref ys, .ref yg, .int (nI rT), .int (nI lT), .int (nI (ro + 1)), .int (nI aT_), .ref yf, .ref yh, .ref yw, .ref yn, .ref yt, .ref yl, .int (nI tt)])), (ye, .inl (cB, 8100, .inl (upd E1 k (1 : Int32).toInt8.toInt32)))]) (st' := []) rfl rfl ?_
                      have hx1 := agr_add hE1b (by rw [hL.2.2.2.2.2.1]; rfl)
                      refine k_aload_n X dX5_delta_325 rfl 0 rfl ?_
                      refine k_aload_n X dX5_delta_326 rfl 0 rfl ?_
                      refine k_get (v := .ref yl) X 10 5 20 rfl rfl (by decide) fl_X5_118 in_X5 rfl rfl dX5_delta_327 ?_
                      refine k_iload_n X dX5_delta_330 rfl 1 rfl ?_
                      refine k_iald (v := Tt t) X 9 rfl (vp_in_nI (n := t) (by omega) (by omega)) (by rw [nI_clamp (n := t) (by omega)]) dX5_delta_331 ?_
                      refine k_as (y := nI bn) (hT0) ?_
                      refine k_bipush (v := 8) X dX5_delta_332 (by decide) ?_
                      refine k_ishr X dX5_delta_334 ?_
                      refine k_as (y := nI (bn / 256)) (n_shr (by omega) 8 (by decide)) ?_
                      refine k_callV (wc := [(m0, .inr (5, [.ref yb, .ref yz, .ref ye, .int (nI (k + 1)), .int (nI sz), .int (nI wz), .int (nI bz), .int (nI uS), .int (nI uW), .ref ys, .ref yg, .int (nI rT), .int (nI lT), .int (nI (ro + 1)), .int (nI aT_), .ref yf, .ref yh, .ref yw, .ref yn, .ref yt, .ref yl, .int (nI tt)])), (ye, .inl (cB, 8100, .inl (upd E1 k (1 : Int32).toInt8.toInt32)))]) (wr := [(yb, .inl (cB, 6000, .inl B)), (yz, .inl (cI, 3, .inl (zf ko kn kr))), (ys, .inl (cI, 2000, .inl S)), (yg, .inl (cB, 32000, .inl G)), (yf, .inl (cB, 2112, .inl F1)), (yw, .inl (cI, 16, .inl V1)), (yh, .inl (cI, 4, .inl H1)), (yn, .inl (cI, 64, .inl KN)), (yt, .inl (cI, 16, .inl KT)), (yl, .inl (cI, 2000, .inl Tt))]) (As := [.int (nI (bn / 256))]) (n := 1) (st := []) (q0 := 0) X (m_add l D cI cB m0 yb yz ye ys yg yf yh yw yn yt yl (k + 1) sz wz bz uS uW rT lT (ro + 1) aT_ tt (upd E1 k (1 : Int32).toInt8.toInt32) (nI (bn / 256)) (by omega)) rfl rfl ml_X5_175 im_X5_add se_X5_add ini_X5 co_X5_add (by decide +kernel) rfl ⟨Nat.le_of_ble_eq_true rfl, Nat.le_of_ble_eq_true rfl⟩ (⟨by (try dsimp only); omega, by (try dsimp only); omega⟩) (Nat.le_of_ble_eq_true rfl) [10, 11] [0, 1, 2, 3, 4, 5, 6, 7, 8, 9] rfl rfl rfl (by decide) (by decide) (by decide) rfl dX5_delta_335 (fun v_335 u_335 hu_335 => ?_)
                      obtain ⟨rfl, rfl⟩ := hu_335
                      refine k_to (ws' := [(yb, .inl (cB, 6000, .inl B)), (yz, .inl (cI, 3, .inl (zf ko kn kr))), (ys, .inl (cI, 2000, .inl S)), (yg, .inl (cB, 32000, .inl G)), (yf, .inl (cB, 2112, .inl F1)), (yw, .inl (cI, 16, .inl V1)), (yh, .inl (cI, 4, .inl H1)), (yn, .inl (cI, 64, .inl KN)), (yt, .inl (cI, 16, .inl KT)), (yl, .inl (cI, 2000, .inl Tt)), (m0, .inr (5, [.ref yb, .ref yz, .ref ye, .int (nI ((k + 1) + 1)), .int (nI sz), .int (nI wz), .int (nI bz), .int (nI uS), .int (nI uW), .ref ys, .ref yg, .int (nI rT), .int (nI lT), .int (nI (ro + 1)), .int (nI aT_), .ref yf, .ref yh, .ref yw, .ref yn, .ref yt, .ref yl, .int (nI tt)])), (ye, .inl (cB, 8100, .inl (upd (upd E1 k (1 : Int32).toInt8.toInt32) (k + 1) (nI (bn / 256)).toInt8.toInt32)))]) (st' := []) rfl rfl ?_
                      have hx2 := agr_add hx1 (by rw [hL.2.2.2.2.2.2.1]; rfl)
                      refine k_aload_n X dX5_delta_338 rfl 0 rfl ?_
                      refine k_aload_n X dX5_delta_339 rfl 0 rfl ?_
                      refine k_get (v := .ref yl) X 10 5 20 rfl rfl (by decide) fl_X5_118 in_X5 rfl rfl dX5_delta_340 ?_
                      refine k_iload_n X dX5_delta_343 rfl 1 rfl ?_
                      refine k_iald (v := Tt t) X 9 rfl (vp_in_nI (n := t) (by omega) (by omega)) (by rw [nI_clamp (n := t) (by omega)]) dX5_delta_344 ?_
                      refine k_as (y := nI bn) (hT0) ?_
                      refine k_callV (wc := [(m0, .inr (5, [.ref yb, .ref yz, .ref ye, .int (nI ((k + 1) + 1)), .int (nI sz), .int (nI wz), .int (nI bz), .int (nI uS), .int (nI uW), .ref ys, .ref yg, .int (nI rT), .int (nI lT), .int (nI (ro + 1)), .int (nI aT_), .ref yf, .ref yh, .ref yw, .ref yn, .ref yt, .ref yl, .int (nI tt)])), (ye, .inl (cB, 8100, .inl (upd (upd E1 k (1 : Int32).toInt8.toInt32) (k + 1) (nI (bn / 256)).toInt8.toInt32)))]) (wr := [(yb, .inl (cB, 6000, .inl B)), (yz, .inl (cI, 3, .inl (zf ko kn kr))), (ys, .inl (cI, 2000, .inl S)), (yg, .inl (cB, 32000, .inl G)), (yf, .inl (cB, 2112, .inl F1)), (yw, .inl (cI, 16, .inl V1)), (yh, .inl (cI, 4, .inl H1)), (yn, .inl (cI, 64, .inl KN)), (yt, .inl (cI, 16, .inl KT)), (yl, .inl (cI, 2000, .inl Tt))]) (As := [.int (nI bn)]) (n := 1) (st := []) (q0 := 0) X (m_add l D cI cB m0 yb yz ye ys yg yf yh yw yn yt yl ((k + 1) + 1) sz wz bz uS uW rT lT (ro + 1) aT_ tt (upd (upd E1 k (1 : Int32).toInt8.toInt32) (k + 1) (nI (bn / 256)).toInt8.toInt32) (nI bn) (by omega)) rfl rfl ml_X5_175 im_X5_add se_X5_add ini_X5 co_X5_add (by decide +kernel) rfl ⟨Nat.le_of_ble_eq_true rfl, Nat.le_of_ble_eq_true rfl⟩ (⟨by (try dsimp only); omega, by (try dsimp only); omega⟩) (Nat.le_of_ble_eq_true rfl) [10, 11] [0, 1, 2, 3, 4, 5, 6, 7, 8, 9] rfl rfl rfl (by decide) (by decide) (by decide) rfl dX5_delta_345 (fun v_345 u_345 hu_345 => ?_)
                      obtain ⟨rfl, rfl⟩ := hu_345
                      refine k_to (ws' := [(yb, .inl (cB, 6000, .inl B)), (yz, .inl (cI, 3, .inl (zf ko kn kr))), (ys, .inl (cI, 2000, .inl S)), (yg, .inl (cB, 32000, .inl G)), (yf, .inl (cB, 2112, .inl F1)), (yw, .inl (cI, 16, .inl V1)), (yh, .inl (cI, 4, .inl H1)), (yn, .inl (cI, 64, .inl KN)), (yt, .inl (cI, 16, .inl KT)), (yl, .inl (cI, 2000, .inl Tt)), (m0, .inr (5, [.ref yb, .ref yz, .ref ye, .int (nI (((k + 1) + 1) + 1)), .int (nI sz), .int (nI wz), .int (nI bz), .int (nI uS), .int (nI uW), .ref ys, .ref yg, .int (nI rT), .int (nI lT), .int (nI (ro + 1)), .int (nI aT_), .ref yf, .ref yh, .ref yw, .ref yn, .ref yt, .ref yl, .int (nI tt)])), (ye, .inl (cB, 8100, .inl (upd (upd (upd E1 k (1 : Int32).toInt8.toInt32) (k + 1) (nI (bn / 256)).toInt8.toInt32) ((k + 1) + 1) (nI bn).toInt8.toInt32)))]) (st' := []) rfl rfl ?_
                      have hx3 := agr_add hx2 (by rw [hL.2.2.2.2.2.2.2.1]; exact sx_mod (by omega))
                      refine k_aload_n X dX5_delta_348 rfl 0 rfl ?_
                      refine k_iload X dX5_delta_349 2 rfl ?_
                      refine k_callV (wc := [(m0, .inr (5, [.ref yb, .ref yz, .ref ye, .int (nI (((k + 1) + 1) + 1)), .int (nI sz), .int (nI wz), .int (nI bz), .int (nI uS), .int (nI uW), .ref ys, .ref yg, .int (nI rT), .int (nI lT), .int (nI (ro + 1)), .int (nI aT_), .ref yf, .ref yh, .ref yw, .ref yn, .ref yt, .ref yl, .int (nI tt)])), (ye, .inl (cB, 8100, .inl (upd (upd (upd E1 k (1 : Int32).toInt8.toInt32) (k + 1) (nI (bn / 256)).toInt8.toInt32) ((k + 1) + 1) (nI bn).toInt8.toInt32)))]) (wr := [(yb, .inl (cB, 6000, .inl B)), (yz, .inl (cI, 3, .inl (zf ko kn kr))), (ys, .inl (cI, 2000, .inl S)), (yg, .inl (cB, 32000, .inl G)), (yf, .inl (cB, 2112, .inl F1)), (yw, .inl (cI, 16, .inl V1)), (yh, .inl (cI, 4, .inl H1)), (yn, .inl (cI, 64, .inl KN)), (yt, .inl (cI, 16, .inl KT)), (yl, .inl (cI, 2000, .inl Tt))]) (As := [.int (nI n)]) (n := 1) (st := []) (q0 := 0) X (m_add l D cI cB m0 yb yz ye ys yg yf yh yw yn yt yl (((k + 1) + 1) + 1) sz wz bz uS uW rT lT (ro + 1) aT_ tt (upd (upd (upd E1 k (1 : Int32).toInt8.toInt32) (k + 1) (nI (bn / 256)).toInt8.toInt32) ((k + 1) + 1) (nI bn).toInt8.toInt32) (nI n) (by omega)) rfl rfl ml_X5_175 im_X5_add se_X5_add ini_X5 co_X5_add (by decide +kernel) rfl ⟨Nat.le_of_ble_eq_true rfl, Nat.le_of_ble_eq_true rfl⟩ (⟨by (try dsimp only); omega, by (try dsimp only); omega⟩) (Nat.le_of_ble_eq_true rfl) [10, 11] [0, 1, 2, 3, 4, 5, 6, 7, 8, 9] rfl rfl rfl (by decide) (by decide) (by decide) rfl dX5_delta_351 (fun v_351 u_351 hu_351 => ?_)
                      obtain ⟨rfl, rfl⟩ := hu_351
                      refine k_to (ws' := [(yb, .inl (cB, 6000, .inl B)), (yz, .inl (cI, 3, .inl (zf ko kn kr))), (ys, .inl (cI, 2000, .inl S)), (yg, .inl (cB, 32000, .inl G)), (yf, .inl (cB, 2112, .inl F1)), (yw, .inl (cI, 16, .inl V1)), (yh, .inl (cI, 4, .inl H1)), (yn, .inl (cI, 64, .inl KN)), (yt, .inl (cI, 16, .inl KT)), (yl, .inl (cI, 2000, .inl Tt)), (m0, .inr (5, [.ref yb, .ref yz, .ref ye, .int (nI ((((k + 1) + 1) + 1) + 1)), .int (nI sz), .int (nI wz), .int (nI bz), .int (nI uS), .int (nI uW), .ref ys, .ref yg, .int (nI rT), .int (nI lT), .int (nI (ro + 1)), .int (nI aT_), .ref yf, .ref yh, .ref yw, .ref yn, .ref yt, .ref yl, .int (nI tt)])), (ye, .inl (cB, 8100, .inl (upd (upd (upd (upd E1 k (1 : Int32).toInt8.toInt32) (k + 1) (nI (bn / 256)).toInt8.toInt32) ((k + 1) + 1) (nI bn).toInt8.toInt32) (((k + 1) + 1) + 1) (nI n).toInt8.toInt32)))]) (st' := []) rfl rfl ?_
                      have hx4 := agr_add hx3 (by rw [hL.2.2.2.2.2.2.2.2]; rfl)
                      refine k_ws (ws' := [(yb, .inl (cB, 6000, .inl B)), (yz, .inl (cI, 3, .inl (zf ko kn kr))), (ys, .inl (cI, 2000, .inl S)), (yg, .inl (cB, 32000, .inl G)), (yf, .inl (cB, 2112, .inl F1)), (yw, .inl (cI, 16, .inl V1)), (yh, .inl (cI, 4, .inl H1)), (yn, .inl (cI, 64, .inl KN)), (yt, .inl (cI, 16, .inl KT)), (yl, .inl (cI, 2000, .inl Tt)), (m0, .inr (5, [.ref yb, .ref yz, .ref ye, .int (nI (k + 4)), .int (nI sz), .int (nI wz), .int (nI bz), .int (nI uS), .int (nI uW), .ref ys, .ref yg, .int (nI rT), .int (nI lT), .int (nI (ro + 1)), .int (nI aT_), .ref yf, .ref yh, .ref yw, .ref yn, .ref yt, .ref yl, .int (nI tt)])), (ye, .inl (cB, 8100, .inl (upd (upd (upd (upd E1 k (1 : Int32).toInt8.toInt32) (k + 1) (nI (bn / 256)).toInt8.toInt32) ((k + 1) + 1) (nI bn).toInt8.toInt32) (((k + 1) + 1) + 1) (nI n).toInt8.toInt32)))]) rfl ?_
                      refine k_iload_n X dX5_delta_354 rfl 1 rfl ?_
                      refine k_iload X dX5_delta_355 2 rfl ?_
                      refine k_iadd X dX5_delta_357 ?_
                      refine k_as (y := nI (t + n)) (nI_add _ _) ?_
                      refine k_istore_n (lv' := [(3, .int (nI (t + n))), (0, .ref m0), (4, .int (nI n)), (5, .int 0)]) X dX5_delta_358 rfl (by decide) rfl ?_
                      refine k_goto (tgt := 167) X dX5_delta_359 (by decide) ?_
                      refine k_lv (lv' := [(0, .ref m0), (3, .int (nI (t + n)))]) [1, 0] rfl ?_
                      refine k_sub (ws' := [(m0, .inr (5, [.ref yb, .ref yz, .ref ye, .int (nI (k + 4)), .int (nI sz), .int (nI wz), .int (nI bz), .int (nI uS), .int (nI uW), .ref ys, .ref yg, .int (nI rT), .int (nI lT), .int (nI (ro + 1)), .int (nI aT_), .ref yf, .ref yh, .ref yw, .ref yn, .ref yt, .ref yl, .int (nI tt)])), (yb, .inl (cB, 6000, .inl B)), (yz, .inl (cI, 3, .inl (zf ko kn kr))), (ys, .inl (cI, 2000, .inl S)), (yg, .inl (cB, 32000, .inl G)), (yf, .inl (cB, 2112, .inl F1)), (yw, .inl (cI, 16, .inl V1)), (yh, .inl (cI, 4, .inl H1)), (yn, .inl (cI, 64, .inl KN)), (yt, .inl (cI, 16, .inl KT)), (ye, .inl (cB, 8100, .inl (upd (upd (upd (upd E1 k (1 : Int32).toInt8.toInt32) (k + 1) (nI (bn / 256)).toInt8.toInt32) ((k + 1) + 1) (nI bn).toInt8.toInt32) (((k + 1) + 1) + 1) (nI n).toInt8.toInt32))), (yl, .inl (cI, 2000, .inl Tt))]) [10, 0, 1, 2, 3, 4, 5, 6, 7, 8, 11, 9] (by decide) rfl rfl ?_
                      refine k_wide (k := 0) (n := 0) (by (try dsimp only); omega) (by (try dsimp only); omega) ?_
                      exact kh (t + n) p2 (nI (bn + n - 1)) rf2 lt2 al2 (k + 4) g2 (ro + 1) n (k + 3) (upd (upd (upd (upd E1 k (1 : Int32).toInt8.toInt32) (k + 1) (nI (bn / 256)).toInt8.toInt32) ((k + 1) + 1) (nI bn).toInt8.toInt32) (((k + 1) + 1) + 1) (nI n).toInt8.toInt32) (⟨hdi2, by omega, hx4, fun _ => ⟨fun _ z => m1_ne (by omega) z.1, fun _ z => by have e := (htB2.symm.trans z.2.1).trans (nI_1 _); have e2 := (nI_eq (by omega) (by omega)).mp e; omega⟩⟩) (by omega)
                    · exact absurd c_272 (by decide)
                  · obtain rfl : bm = bn + n := by omega
                    have hdn2 := dS_rg hdi2 hlive2 htB2 (by omega) ⟨m1_ne (by omega), by rw [nI_1]; congr 1; omega, by omega⟩
                    rw [show bn + n = bn + (n + 1) - 1 by omega] at hdn2
                    refine k_iinc (v := nI (n + 1)) (lv' := [(4, .int (nI (n + 1))), (0, .ref m0), (3, .int (nI t)), (5, .int 0)]) X dX5_delta_254 2 rfl (nI_1 _) (by decide) rfl ?_
                    refine k_goto (tgt := 194) X dX5_delta_257 (by decide) ?_
                    refine k_lv (lv' := [(0, .ref m0), (3, .int (nI t)), (4, .int (nI (n + 1))), (5, .int 0)]) [1, 2, 0, 3] rfl ?_
                    refine k_sub (ws' := [(m0, .inr (5, [.ref yb, .ref yz, .ref ye, .int (nI k), .int (nI sz), .int (nI wz), .int (nI bz), .int (nI uS), .int (nI uW), .ref ys, .ref yg, .int (nI rT), .int (nI lT), .int (nI ro), .int (nI aT_), .ref yf, .ref yh, .ref yw, .ref yn, .ref yt, .ref yl, .int (nI tt)])), (yb, .inl (cB, 6000, .inl B)), (yz, .inl (cI, 3, .inl (zf ko kn kr))), (ys, .inl (cI, 2000, .inl S)), (yg, .inl (cB, 32000, .inl G)), (yf, .inl (cB, 2112, .inl F1)), (yw, .inl (cI, 16, .inl V1)), (yh, .inl (cI, 4, .inl H1)), (yn, .inl (cI, 64, .inl KN)), (yt, .inl (cI, 16, .inl KT)), (ye, .inl (cB, 8100, .inl E1)), (yl, .inl (cI, 2000, .inl Tt))]) [0, 1, 2, 3, 4, 5, 6, 7, 8, 9, 10, 11] (by decide) rfl rfl ?_
                    refine k_wide (k := 0) (n := 0) (by (try dsimp only); omega) (by (try dsimp only); omega) ?_
                    exact lh (n + 1) (p2 + uS) (rf2 + 1) lt2 al2 (refGrow g2 (k + 3) n) (⟨by omega, by omega, by omega, hdn2, fun j hj => by unfold refGrow; rw [pk_un (by omega)]; exact hL.2.2.2.2.1 j hj, by unfold refGrow; rw [pk_un (by omega)]; exact hL.2.2.2.2.2.1, by unfold refGrow; rw [pk_un (by omega)]; exact hL.2.2.2.2.2.2.1, by unfold refGrow; rw [pk_un (by omega)]; exact hL.2.2.2.2.2.2.2.1, by unfold refGrow; rw [pk_us]⟩) (by omega)
              · exact absurd c_215 (by decide)
        · exact absurd c_184 (by omega)
  · refine k_aload_n X dX5_delta_39 rfl 0 rfl ?_
    refine k_iload_n X dX5_delta_40 rfl 1 rfl ?_
    refine k_iload_n X dX5_delta_41 rfl 2 rfl ?_
    by_cases hpb : p + uS ≤ kn
    · refine k_callV (wc := [(m0, .inr (5, [.ref yb, .ref yz, .ref ye, .int (nI dz), .int (nI sz), .int (nI wz), .int (nI bz), .int (nI uS), .int (nI uW), .ref ys, .ref yg, .int (nI rf), .int (nI lt), .int (nI 0), .int (nI al), .ref yf, .ref yh, .ref yw, .ref yn, .ref yt, .ref yl, .int (nI t)])), (yb, .inl (cB, 6000, .inl B)), (yz, .inl (cI, 3, .inl (zf ko kn kr))), (ys, .inl (cI, 2000, .inl S)), (yg, .inl (cB, 32000, .inl G)), (yf, .inl (cB, 2112, .inl F1)), (yw, .inl (cI, 16, .inl V1)), (yh, .inl (cI, 4, .inl H1)), (yn, .inl (cI, 64, .inl KN)), (yt, .inl (cI, 16, .inl KT))]) (wr := [(ye, .inl (cB, 8100, .inl E)), (yl, .inl (cI, 2000, .inl Tt))]) (As := [.int (nI p), .int (lF la)]) (n := 2) (st := []) (q0 := 0) X (m_blockAt l D cI cB m0 yb yz ye ys yg yf yh yw yn yt yl dz sz wz bz uS uW rf lt 0 al t B S G F1 V1 H1 KN KT f ko kn kr p (lF la) (hn) (hz) (hw) (hpb) (hBy) (hKN) (hKT)) rfl rfl ml_X5_172 im_X5_blockAt se_X5_blockAt ini_X5 co_X5_blockAt (by decide +kernel) rfl ⟨Nat.le_of_ble_eq_true rfl, Nat.le_of_ble_eq_true rfl⟩ (⟨by (try dsimp only); omega, by (try dsimp only); omega⟩) (Nat.le_of_ble_eq_true rfl) [0, 1, 2, 3, 4, 5, 6, 7, 8, 9] [10, 11] rfl rfl rfl (by decide) (by decide) (by decide) rfl dX5_delta_42 (fun v_42 u_42 hu_42 => ?_)
      obtain ⟨F2, V2, H2, rfl, rfl⟩ := hu_42
      refine k_to (ws' := [(ye, .inl (cB, 8100, .inl E)), (yl, .inl (cI, 2000, .inl Tt)), (m0, .inr (5, [.ref yb, .ref yz, .ref ye, .int (nI dz), .int (nI sz), .int (nI wz), .int (nI bz), .int (nI uS), .int (nI uW), .ref ys, .ref yg, .int (nI rf), .int (nI lt), .int (nI 0), .int (nI (al + (if ¬ cN (pS S (sSum f p uS)) bz 0 = -1 ∧ fnd S G (mDig f p uS) bz uW (sSum f p uS) (lF la) = -1 then 1 else 0))), .ref yf, .ref yh, .ref yw, .ref yn, .ref yt, .ref yl, .int (nI t)])), (yb, .inl (cB, 6000, .inl B)), (yz, .inl (cI, 3, .inl (zf ko kn kr))), (ys, .inl (cI, 2000, .inl S)), (yg, .inl (cB, 32000, .inl G)), (yf, .inl (cB, 2112, .inl F2)), (yw, .inl (cI, 16, .inl V2)), (yh, .inl (cI, 4, .inl H2)), (yn, .inl (cI, 64, .inl KN)), (yt, .inl (cI, 16, .inl KT))]) (st' := [.int (fnd S G (mDig f p uS) bz uW (sSum f p uS) (lF la))]) rfl rfl ?_
      rcases fnd_cases S G (mDig f p uS) bz uW (sSum f p uS) (lF la) with efn | ⟨bn, hbn, efn⟩
      · refine k_ws (ws' := [(ye, .inl (cB, 8100, .inl E)), (yl, .inl (cI, 2000, .inl Tt)), (m0, .inr (5, [.ref yb, .ref yz, .ref ye, .int (nI dz), .int (nI sz), .int (nI wz), .int (nI bz), .int (nI uS), .int (nI uW), .ref ys, .ref yg, .int (nI rf), .int (nI lt), .int (nI 0), .int (nI (al + tA f kn uS uW bz S G p la)), .ref yf, .ref yh, .ref yw, .ref yn, .ref yt, .ref yl, .int (nI t)])), (yb, .inl (cB, 6000, .inl B)), (yz, .inl (cI, 3, .inl (zf ko kn kr))), (ys, .inl (cI, 2000, .inl S)), (yg, .inl (cB, 32000, .inl G)), (yf, .inl (cB, 2112, .inl F2)), (yw, .inl (cI, 16, .inl V2)), (yh, .inl (cI, 4, .inl H2)), (yn, .inl (cI, 64, .inl KN)), (yt, .inl (cI, 16, .inl KT))]) (by rw [tA_fnd hpb]) ?_
        refine k_as (y := -1) (efn) ?_
        have htB : tB f kn uS uW bz S G p la = -1 := tB_fnd hpb efn
        have hnx := dA_l hI.1 (by omega) htB
        have hA1 := tA_le f kn uS uW bz S G p la
        refine k_istore_n (lv' := [(3, .int (-1)), (0, .ref m0), (1, .int (nI p)), (2, .int (lF la))]) X dX5_delta_45 rfl (by decide) rfl ?_
        refine k_aload_n X dX5_delta_46 rfl 1 rfl ?_
        refine k_get (v := .ref yl) X 2 5 20 rfl rfl (by decide) fl_X5_118 in_X5 rfl rfl dX5_delta_47 ?_
        refine k_aload_n X dX5_delta_50 rfl 1 rfl ?_
        refine k_get (v := .int (nI t)) X 2 5 21 rfl rfl (by decide) fl_X5_169 in_X5 rfl rfl dX5_delta_51 ?_
        refine k_iload_n X dX5_delta_54 rfl 0 rfl ?_
        refine k_iconst (v := -1) X dX5_delta_55 (by decide) ?_
        refine k_icmp_ne (tgt := 78) (xi := (-1 : Int)) (yi := (-1 : Int)) X (by decide) (by decide) dX5_delta_56 (by decide) (fun c_56 => ?_) (fun c_56 => ?_)
        · exact absurd c_56 (by decide)
        · refine k_iconst (v := -1) X dX5_delta_59 (by decide) ?_
          refine k_aload_n X dX5_delta_60 rfl 1 rfl ?_
          refine k_get (v := .ref yb) X 2 5 0 rfl rfl (by decide) fl_X5_7 in_X5 rfl rfl dX5_delta_61 ?_
          refine k_sipush (v := 2000) X dX5_delta_64 (by decide) ?_
          refine k_iload_n X dX5_delta_67 rfl 2 rfl ?_
          refine k_iadd X dX5_delta_68 ?_
          refine k_as (y := nI (2000 + p)) (nI_add 2000 p) ?_
          refine k_bald (v := B (2000 + p)) X 3 rfl (vp_in_nI (n := 2000 + p) (by omega) (by omega)) (by rw [nI_clamp (n := 2000 + p) (by omega)]) dX5_delta_69 ?_
          refine k_sipush (v := 255) X dX5_delta_70 (by decide) ?_
          refine k_iand X dX5_delta_73 ?_
          refine k_as (y := f p) (hBy p (by omega)) ?_
          refine k_isub X dX5_delta_74 ?_
          refine k_goto (tgt := 79) X dX5_delta_75 (by decide) ?_
          refine k_iast (f' := upd Tt t ((-1) - (f p))) (ws' := [(ye, .inl (cB, 8100, .inl E)), (yl, .inl (cI, 2000, .inl (upd Tt t ((-1) - (f p))))), (m0, .inr (5, [.ref yb, .ref yz, .ref ye, .int (nI dz), .int (nI sz), .int (nI wz), .int (nI bz), .int (nI uS), .int (nI uW), .ref ys, .ref yg, .int (nI rf), .int (nI lt), .int (nI 0), .int (nI (al + tA f kn uS uW bz S G p la)), .ref yf, .ref yh, .ref yw, .ref yn, .ref yt, .ref yl, .int (nI t)])), (yb, .inl (cB, 6000, .inl B)), (yz, .inl (cI, 3, .inl (zf ko kn kr))), (ys, .inl (cI, 2000, .inl S)), (yg, .inl (cB, 32000, .inl G)), (yf, .inl (cB, 2112, .inl F2)), (yw, .inl (cI, 16, .inl V2)), (yh, .inl (cI, 4, .inl H2)), (yn, .inl (cI, 64, .inl KN)), (yt, .inl (cI, 16, .inl KT))]) X 1 rfl (vp_in_nI (n := t) (by omega) (by omega)) (by rw [nI_clamp (n := t) (by omega)]) rfl dX5_delta_79 ?_
          refine k_aload_n X dX5_delta_80 rfl 1 rfl ?_
          refine k_dup X dX5_delta_81 rfl ?_
          refine k_get (v := .int (nI t)) X 2 5 21 rfl rfl (by decide) fl_X5_169 in_X5 rfl rfl dX5_delta_82 ?_
          refine k_iconst (v := 1) X dX5_delta_85 (by decide) ?_
          refine k_iadd X dX5_delta_86 ?_
          refine k_as (y := nI (t + 1)) (nI_1 _) ?_
          refine k_put (v := .int (nI (t + 1))) (ty := .int) (ws' := [(ye, .inl (cB, 8100, .inl E)), (yl, .inl (cI, 2000, .inl (upd Tt t ((-1) - (f p))))), (m0, .inr (5, [.ref yb, .ref yz, .ref ye, .int (nI dz), .int (nI sz), .int (nI wz), .int (nI bz), .int (nI uS), .int (nI uW), .ref ys, .ref yg, .int (nI rf), .int (nI lt), .int (nI 0), .int (nI (al + tA f kn uS uW bz S G p la)), .ref yf, .ref yh, .ref yw, .ref yn, .ref yt, .ref yl, .int (nI (t + 1))])), (yb, .inl (cB, 6000, .inl B)), (yz, .inl (cI, 3, .inl (zf ko kn kr))), (ys, .inl (cI, 2000, .inl S)), (yg, .inl (cB, 32000, .inl G)), (yf, .inl (cB, 2112, .inl F2)), (yw, .inl (cI, 16, .inl V2)), (yh, .inl (cI, 4, .inl H2)), (yn, .inl (cI, 64, .inl KN)), (yt, .inl (cI, 16, .inl KT))]) X 2 5 21 tyX5 tyX5_ok nmX5 rfl rfl (by decide) fl_X5_169 in_X5 rfl rfl (by decide +kernel) rfl rfl (Nat.le_of_ble_eq_true rfl) rfl dX5_delta_87 ?_
          refine k_iload_n X dX5_delta_90 rfl 0 rfl ?_
          refine k_iconst (v := -1) X dX5_delta_91 (by decide) ?_
          refine k_icmp_ne (tgt := 99) (xi := (-1 : Int)) (yi := (-1 : Int)) X (by decide) (by decide) dX5_delta_92 (by decide) (fun c_92 => ?_) (fun c_92 => ?_)
          · exact absurd c_92 (by decide)
          · refine k_iconst (v := -1) X dX5_delta_95 (by decide) ?_
            refine k_goto (tgt := 102) X dX5_delta_96 (by decide) ?_
            refine k_as (y := lF (-1)) (lF_m1) ?_
            refine k_istore_n (lv' := [(2, .int (lF (-1))), (3, .int (-1)), (0, .ref m0), (1, .int (nI p))]) X dX5_delta_102 rfl (by decide) rfl ?_
            refine k_iload_n X dX5_delta_103 rfl 3 rfl ?_
            refine k_iload_n X dX5_delta_104 rfl 1 rfl ?_
            refine k_iconst (v := -1) X dX5_delta_105 (by decide) ?_
            refine k_icmp_ne (tgt := 113) (xi := (-1 : Int)) (yi := (-1 : Int)) X (by decide) (by decide) dX5_delta_106 (by decide) (fun c_106 => ?_) (fun c_106 => ?_)
            · exact absurd c_106 (by decide)
            · refine k_iconst (v := 1) X dX5_delta_109 (by decide) ?_
              refine k_goto (tgt := 117) X dX5_delta_110 (by decide) ?_
              refine k_iadd X dX5_delta_117 ?_
              refine k_as (y := nI (p + 1)) (nI_1 _) ?_
              refine k_istore_n (lv' := [(1, .int (nI (p + 1))), (2, .int (lF (-1))), (3, .int (-1)), (0, .ref m0)]) X dX5_delta_118 rfl (by decide) rfl ?_
              refine k_aload_n X dX5_delta_119 rfl 3 rfl ?_
              refine k_dup X dX5_delta_120 rfl ?_
              refine k_get (v := .int (nI rf)) X 2 5 11 rfl rfl (by decide) fl_X5_160 in_X5 rfl rfl dX5_delta_121 ?_
              refine k_iload_n X dX5_delta_124 rfl 2 rfl ?_
              refine k_iconst (v := -1) X dX5_delta_125 (by decide) ?_
              refine k_icmp_ne (tgt := 133) (xi := (-1 : Int)) (yi := (-1 : Int)) X (by decide) (by decide) dX5_delta_126 (by decide) (fun c_126 => ?_) (fun c_126 => ?_)
              · exact absurd c_126 (by decide)
              · refine k_iconst (v := 0) X dX5_delta_129 (by decide) ?_
                refine k_goto (tgt := 134) X dX5_delta_130 (by decide) ?_
                refine k_iadd X dX5_delta_134 ?_
                refine k_as (y := nI rf) (nI_add rf 0) ?_
                refine k_put (v := .int (nI rf)) (ty := .int) (ws' := [(ye, .inl (cB, 8100, .inl E)), (yl, .inl (cI, 2000, .inl (upd Tt t ((-1) - (f p))))), (m0, .inr (5, [.ref yb, .ref yz, .ref ye, .int (nI dz), .int (nI sz), .int (nI wz), .int (nI bz), .int (nI uS), .int (nI uW), .ref ys, .ref yg, .int (nI rf), .int (nI lt), .int (nI 0), .int (nI (al + tA f kn uS uW bz S G p la)), .ref yf, .ref yh, .ref yw, .ref yn, .ref yt, .ref yl, .int (nI (t + 1))])), (yb, .inl (cB, 6000, .inl B)), (yz, .inl (cI, 3, .inl (zf ko kn kr))), (ys, .inl (cI, 2000, .inl S)), (yg, .inl (cB, 32000, .inl G)), (yf, .inl (cB, 2112, .inl F2)), (yw, .inl (cI, 16, .inl V2)), (yh, .inl (cI, 4, .inl H2)), (yn, .inl (cI, 64, .inl KN)), (yt, .inl (cI, 16, .inl KT))]) X 2 5 11 tyX5 tyX5_ok nmX5 rfl rfl (by decide) fl_X5_160 in_X5 rfl rfl (by decide +kernel) rfl rfl (Nat.le_of_ble_eq_true rfl) rfl dX5_delta_135 ?_
                refine k_aload_n X dX5_delta_138 rfl 3 rfl ?_
                refine k_dup X dX5_delta_139 rfl ?_
                refine k_get (v := .int (nI lt)) X 2 5 12 rfl rfl (by decide) fl_X5_163 in_X5 rfl rfl dX5_delta_140 ?_
                refine k_iload_n X dX5_delta_143 rfl 2 rfl ?_
                refine k_iconst (v := -1) X dX5_delta_144 (by decide) ?_
                refine k_icmp_ne (tgt := 152) (xi := (-1 : Int)) (yi := (-1 : Int)) X (by decide) (by decide) dX5_delta_145 (by decide) (fun c_145 => ?_) (fun c_145 => ?_)
                · exact absurd c_145 (by decide)
                · refine k_iconst (v := 1) X dX5_delta_148 (by decide) ?_
                  refine k_goto (tgt := 153) X dX5_delta_149 (by decide) ?_
                  refine k_iadd X dX5_delta_153 ?_
                  refine k_as (y := nI (lt + 1)) (nI_1 _) ?_
                  refine k_put (v := .int (nI (lt + 1))) (ty := .int) (ws' := [(ye, .inl (cB, 8100, .inl E)), (yl, .inl (cI, 2000, .inl (upd Tt t ((-1) - (f p))))), (m0, .inr (5, [.ref yb, .ref yz, .ref ye, .int (nI dz), .int (nI sz), .int (nI wz), .int (nI bz), .int (nI uS), .int (nI uW), .ref ys, .ref yg, .int (nI rf), .int (nI (lt + 1)), .int (nI 0), .int (nI (al + tA f kn uS uW bz S G p la)), .ref yf, .ref yh, .ref yw, .ref yn, .ref yt, .ref yl, .int (nI (t + 1))])), (yb, .inl (cB, 6000, .inl B)), (yz, .inl (cI, 3, .inl (zf ko kn kr))), (ys, .inl (cI, 2000, .inl S)), (yg, .inl (cB, 32000, .inl G)), (yf, .inl (cB, 2112, .inl F2)), (yw, .inl (cI, 16, .inl V2)), (yh, .inl (cI, 4, .inl H2)), (yn, .inl (cI, 64, .inl KN)), (yt, .inl (cI, 16, .inl KT))]) X 2 5 12 tyX5 tyX5_ok nmX5 rfl rfl (by decide) fl_X5_163 in_X5 rfl rfl (by decide +kernel) rfl rfl (Nat.le_of_ble_eq_true rfl) rfl dX5_delta_154 ?_
                  refine k_goto (tgt := 29) X dX5_delta_157 (by decide) ?_
                  refine k_lv (lv' := [(0, .ref m0), (1, .int (nI (p + 1))), (2, .int (lF (-1)))]) [3, 0, 1] rfl ?_
                  refine k_sub (ws' := [(m0, .inr (5, [.ref yb, .ref yz, .ref ye, .int (nI dz), .int (nI sz), .int (nI wz), .int (nI bz), .int (nI uS), .int (nI uW), .ref ys, .ref yg, .int (nI rf), .int (nI (lt + 1)), .int (nI 0), .int (nI (al + tA f kn uS uW bz S G p la)), .ref yf, .ref yh, .ref yw, .ref yn, .ref yt, .ref yl, .int (nI (t + 1))])), (yb, .inl (cB, 6000, .inl B)), (yz, .inl (cI, 3, .inl (zf ko kn kr))), (ys, .inl (cI, 2000, .inl S)), (yg, .inl (cB, 32000, .inl G)), (yf, .inl (cB, 2112, .inl F2)), (yw, .inl (cI, 16, .inl V2)), (yh, .inl (cI, 4, .inl H2)), (yn, .inl (cI, 64, .inl KN)), (yt, .inl (cI, 16, .inl KT)), (ye, .inl (cB, 8100, .inl E)), (yl, .inl (cI, 2000, .inl (upd Tt t ((-1) - (f p)))))]) [2, 3, 4, 5, 6, 7, 8, 9, 10, 11, 0, 1] (by decide) rfl rfl ?_
                  refine k_wide (k := 0) (n := 0) (by (try dsimp only); omega) (by (try dsimp only); omega) ?_
                  exact ih (t + 1) (p + 1) (-1) rf (lt + 1) (al + tA f kn uS uW bz S G p la) (upd Tt t ((-1) - (f p))) F2 V2 H2 (⟨hnx.1, by omega, lt_s (fun i hi => by rw [pk_un (by omega)]; exact hI.2.2.1 i hi) (by rw [pk_us, hnx.2]), lt_s hI.2.2.2 (by rw [hI.1.1]; omega)⟩) (by omega)
      · refine k_ws (ws' := [(ye, .inl (cB, 8100, .inl E)), (yl, .inl (cI, 2000, .inl Tt)), (m0, .inr (5, [.ref yb, .ref yz, .ref ye, .int (nI dz), .int (nI sz), .int (nI wz), .int (nI bz), .int (nI uS), .int (nI uW), .ref ys, .ref yg, .int (nI rf), .int (nI lt), .int (nI 0), .int (nI al), .ref yf, .ref yh, .ref yw, .ref yn, .ref yt, .ref yl, .int (nI t)])), (yb, .inl (cB, 6000, .inl B)), (yz, .inl (cI, 3, .inl (zf ko kn kr))), (ys, .inl (cI, 2000, .inl S)), (yg, .inl (cB, 32000, .inl G)), (yf, .inl (cB, 2112, .inl F2)), (yw, .inl (cI, 16, .inl V2)), (yh, .inl (cI, 4, .inl H2)), (yn, .inl (cI, 64, .inl KN)), (yt, .inl (cI, 16, .inl KT))]) (by rw [if_neg (fun z => m1_ne (b := bn) (by omega) (by rw [← efn]; exact z.2))]; rfl) ?_
        refine k_as (y := nI bn) (efn) ?_
        have htB : tB f kn uS uW bz S G p la = nI bn := tB_fnd hpb efn
        have hnx := dA_r hI.1 (by omega) htB (by omega)
        refine k_istore_n (lv' := [(3, .int (nI bn)), (0, .ref m0), (1, .int (nI p)), (2, .int (lF la))]) X dX5_delta_45 rfl (by decide) rfl ?_
        refine k_aload_n X dX5_delta_46 rfl 1 rfl ?_
        refine k_get (v := .ref yl) X 2 5 20 rfl rfl (by decide) fl_X5_118 in_X5 rfl rfl dX5_delta_47 ?_
        refine k_aload_n X dX5_delta_50 rfl 1 rfl ?_
        refine k_get (v := .int (nI t)) X 2 5 21 rfl rfl (by decide) fl_X5_169 in_X5 rfl rfl dX5_delta_51 ?_
        refine k_iload_n X dX5_delta_54 rfl 0 rfl ?_
        refine k_iconst (v := -1) X dX5_delta_55 (by decide) ?_
        refine k_icmp_ne (tgt := 78) (xi := ((bn : Nat) : Int)) (yi := (-1 : Int)) X (nI_toInt (by omega)) (by decide) dX5_delta_56 (by decide) (fun c_56 => ?_) (fun c_56 => ?_)
        · refine k_iload_n X dX5_delta_78 rfl 0 rfl ?_
          refine k_iast (f' := upd Tt t (nI bn)) (ws' := [(ye, .inl (cB, 8100, .inl E)), (yl, .inl (cI, 2000, .inl (upd Tt t (nI bn)))), (m0, .inr (5, [.ref yb, .ref yz, .ref ye, .int (nI dz), .int (nI sz), .int (nI wz), .int (nI bz), .int (nI uS), .int (nI uW), .ref ys, .ref yg, .int (nI rf), .int (nI lt), .int (nI 0), .int (nI al), .ref yf, .ref yh, .ref yw, .ref yn, .ref yt, .ref yl, .int (nI t)])), (yb, .inl (cB, 6000, .inl B)), (yz, .inl (cI, 3, .inl (zf ko kn kr))), (ys, .inl (cI, 2000, .inl S)), (yg, .inl (cB, 32000, .inl G)), (yf, .inl (cB, 2112, .inl F2)), (yw, .inl (cI, 16, .inl V2)), (yh, .inl (cI, 4, .inl H2)), (yn, .inl (cI, 64, .inl KN)), (yt, .inl (cI, 16, .inl KT))]) X 1 rfl (vp_in_nI (n := t) (by omega) (by omega)) (by rw [nI_clamp (n := t) (by omega)]) rfl dX5_delta_79 ?_
          refine k_aload_n X dX5_delta_80 rfl 1 rfl ?_
          refine k_dup X dX5_delta_81 rfl ?_
          refine k_get (v := .int (nI t)) X 2 5 21 rfl rfl (by decide) fl_X5_169 in_X5 rfl rfl dX5_delta_82 ?_
          refine k_iconst (v := 1) X dX5_delta_85 (by decide) ?_
          refine k_iadd X dX5_delta_86 ?_
          refine k_as (y := nI (t + 1)) (nI_1 _) ?_
          refine k_put (v := .int (nI (t + 1))) (ty := .int) (ws' := [(ye, .inl (cB, 8100, .inl E)), (yl, .inl (cI, 2000, .inl (upd Tt t (nI bn)))), (m0, .inr (5, [.ref yb, .ref yz, .ref ye, .int (nI dz), .int (nI sz), .int (nI wz), .int (nI bz), .int (nI uS), .int (nI uW), .ref ys, .ref yg, .int (nI rf), .int (nI lt), .int (nI 0), .int (nI al), .ref yf, .ref yh, .ref yw, .ref yn, .ref yt, .ref yl, .int (nI (t + 1))])), (yb, .inl (cB, 6000, .inl B)), (yz, .inl (cI, 3, .inl (zf ko kn kr))), (ys, .inl (cI, 2000, .inl S)), (yg, .inl (cB, 32000, .inl G)), (yf, .inl (cB, 2112, .inl F2)), (yw, .inl (cI, 16, .inl V2)), (yh, .inl (cI, 4, .inl H2)), (yn, .inl (cI, 64, .inl KN)), (yt, .inl (cI, 16, .inl KT))]) X 2 5 21 tyX5 tyX5_ok nmX5 rfl rfl (by decide) fl_X5_169 in_X5 rfl rfl (by decide +kernel) rfl rfl (Nat.le_of_ble_eq_true rfl) rfl dX5_delta_87 ?_
          refine k_iload_n X dX5_delta_90 rfl 0 rfl ?_
          refine k_iconst (v := -1) X dX5_delta_91 (by decide) ?_
          refine k_icmp_ne (tgt := 99) (xi := ((bn : Nat) : Int)) (yi := (-1 : Int)) X (nI_toInt (by omega)) (by decide) dX5_delta_92 (by decide) (fun c_92 => ?_) (fun c_92 => ?_)
          · refine k_iload_n X dX5_delta_99 rfl 0 rfl ?_
            refine k_iconst (v := 1) X dX5_delta_100 (by decide) ?_
            refine k_iadd X dX5_delta_101 ?_
            refine k_as (y := lF (nI bn)) (by rw [lF, if_neg (m1_ne (by omega))]) ?_
            refine k_istore_n (lv' := [(2, .int (lF (nI bn))), (3, .int (nI bn)), (0, .ref m0), (1, .int (nI p))]) X dX5_delta_102 rfl (by decide) rfl ?_
            refine k_iload_n X dX5_delta_103 rfl 3 rfl ?_
            refine k_iload_n X dX5_delta_104 rfl 1 rfl ?_
            refine k_iconst (v := -1) X dX5_delta_105 (by decide) ?_
            refine k_icmp_ne (tgt := 113) (xi := ((bn : Nat) : Int)) (yi := (-1 : Int)) X (nI_toInt (by omega)) (by decide) dX5_delta_106 (by decide) (fun c_106 => ?_) (fun c_106 => ?_)
            · refine k_aload_n X dX5_delta_113 rfl 2 rfl ?_
              refine k_get (v := .int (nI uS)) X 2 5 7 rfl rfl (by decide) fl_X5_27 in_X5 rfl rfl dX5_delta_114 ?_
              refine k_iadd X dX5_delta_117 ?_
              refine k_as (y := nI (p + uS)) (nI_add _ _) ?_
              refine k_istore_n (lv' := [(1, .int (nI (p + uS))), (2, .int (lF (nI bn))), (3, .int (nI bn)), (0, .ref m0)]) X dX5_delta_118 rfl (by decide) rfl ?_
              refine k_aload_n X dX5_delta_119 rfl 3 rfl ?_
              refine k_dup X dX5_delta_120 rfl ?_
              refine k_get (v := .int (nI rf)) X 2 5 11 rfl rfl (by decide) fl_X5_160 in_X5 rfl rfl dX5_delta_121 ?_
              refine k_iload_n X dX5_delta_124 rfl 2 rfl ?_
              refine k_iconst (v := -1) X dX5_delta_125 (by decide) ?_
              refine k_icmp_ne (tgt := 133) (xi := ((bn : Nat) : Int)) (yi := (-1 : Int)) X (nI_toInt (by omega)) (by decide) dX5_delta_126 (by decide) (fun c_126 => ?_) (fun c_126 => ?_)
              · refine k_iconst (v := 1) X dX5_delta_133 (by decide) ?_
                refine k_iadd X dX5_delta_134 ?_
                refine k_as (y := nI (rf + 1)) (nI_1 _) ?_
                refine k_put (v := .int (nI (rf + 1))) (ty := .int) (ws' := [(ye, .inl (cB, 8100, .inl E)), (yl, .inl (cI, 2000, .inl (upd Tt t (nI bn)))), (m0, .inr (5, [.ref yb, .ref yz, .ref ye, .int (nI dz), .int (nI sz), .int (nI wz), .int (nI bz), .int (nI uS), .int (nI uW), .ref ys, .ref yg, .int (nI (rf + 1)), .int (nI lt), .int (nI 0), .int (nI al), .ref yf, .ref yh, .ref yw, .ref yn, .ref yt, .ref yl, .int (nI (t + 1))])), (yb, .inl (cB, 6000, .inl B)), (yz, .inl (cI, 3, .inl (zf ko kn kr))), (ys, .inl (cI, 2000, .inl S)), (yg, .inl (cB, 32000, .inl G)), (yf, .inl (cB, 2112, .inl F2)), (yw, .inl (cI, 16, .inl V2)), (yh, .inl (cI, 4, .inl H2)), (yn, .inl (cI, 64, .inl KN)), (yt, .inl (cI, 16, .inl KT))]) X 2 5 11 tyX5 tyX5_ok nmX5 rfl rfl (by decide) fl_X5_160 in_X5 rfl rfl (by decide +kernel) rfl rfl (Nat.le_of_ble_eq_true rfl) rfl dX5_delta_135 ?_
                refine k_aload_n X dX5_delta_138 rfl 3 rfl ?_
                refine k_dup X dX5_delta_139 rfl ?_
                refine k_get (v := .int (nI lt)) X 2 5 12 rfl rfl (by decide) fl_X5_163 in_X5 rfl rfl dX5_delta_140 ?_
                refine k_iload_n X dX5_delta_143 rfl 2 rfl ?_
                refine k_iconst (v := -1) X dX5_delta_144 (by decide) ?_
                refine k_icmp_ne (tgt := 152) (xi := ((bn : Nat) : Int)) (yi := (-1 : Int)) X (nI_toInt (by omega)) (by decide) dX5_delta_145 (by decide) (fun c_145 => ?_) (fun c_145 => ?_)
                · refine k_iconst (v := 0) X dX5_delta_152 (by decide) ?_
                  refine k_iadd X dX5_delta_153 ?_
                  refine k_as (y := nI lt) (nI_add lt 0) ?_
                  refine k_put (v := .int (nI lt)) (ty := .int) (ws' := [(ye, .inl (cB, 8100, .inl E)), (yl, .inl (cI, 2000, .inl (upd Tt t (nI bn)))), (m0, .inr (5, [.ref yb, .ref yz, .ref ye, .int (nI dz), .int (nI sz), .int (nI wz), .int (nI bz), .int (nI uS), .int (nI uW), .ref ys, .ref yg, .int (nI (rf + 1)), .int (nI lt), .int (nI 0), .int (nI al), .ref yf, .ref yh, .ref yw, .ref yn, .ref yt, .ref yl, .int (nI (t + 1))])), (yb, .inl (cB, 6000, .inl B)), (yz, .inl (cI, 3, .inl (zf ko kn kr))), (ys, .inl (cI, 2000, .inl S)), (yg, .inl (cB, 32000, .inl G)), (yf, .inl (cB, 2112, .inl F2)), (yw, .inl (cI, 16, .inl V2)), (yh, .inl (cI, 4, .inl H2)), (yn, .inl (cI, 64, .inl KN)), (yt, .inl (cI, 16, .inl KT))]) X 2 5 12 tyX5 tyX5_ok nmX5 rfl rfl (by decide) fl_X5_163 in_X5 rfl rfl (by decide +kernel) rfl rfl (Nat.le_of_ble_eq_true rfl) rfl dX5_delta_154 ?_
                  refine k_goto (tgt := 29) X dX5_delta_157 (by decide) ?_
                  refine k_lv (lv' := [(0, .ref m0), (1, .int (nI (p + uS))), (2, .int (lF (nI bn)))]) [3, 0, 1] rfl ?_
                  refine k_sub (ws' := [(m0, .inr (5, [.ref yb, .ref yz, .ref ye, .int (nI dz), .int (nI sz), .int (nI wz), .int (nI bz), .int (nI uS), .int (nI uW), .ref ys, .ref yg, .int (nI (rf + 1)), .int (nI lt), .int (nI 0), .int (nI al), .ref yf, .ref yh, .ref yw, .ref yn, .ref yt, .ref yl, .int (nI (t + 1))])), (yb, .inl (cB, 6000, .inl B)), (yz, .inl (cI, 3, .inl (zf ko kn kr))), (ys, .inl (cI, 2000, .inl S)), (yg, .inl (cB, 32000, .inl G)), (yf, .inl (cB, 2112, .inl F2)), (yw, .inl (cI, 16, .inl V2)), (yh, .inl (cI, 4, .inl H2)), (yn, .inl (cI, 64, .inl KN)), (yt, .inl (cI, 16, .inl KT)), (ye, .inl (cB, 8100, .inl E)), (yl, .inl (cI, 2000, .inl (upd Tt t (nI bn))))]) [2, 3, 4, 5, 6, 7, 8, 9, 10, 11, 0, 1] (by decide) rfl rfl ?_
                  refine k_wide (k := 0) (n := 0) (by (try dsimp only); omega) (by (try dsimp only); omega) ?_
                  exact ih (t + 1) (p + uS) (nI bn) (rf + 1) lt al (upd Tt t (nI bn)) F2 V2 H2 (⟨hnx.1, by omega, lt_s (fun i hi => by rw [pk_un (by omega)]; exact hI.2.2.1 i hi) (by rw [pk_us, hnx.2]), lt_s hI.2.2.2 (by rw [hI.1.1]; omega)⟩) (by omega)
                · exact absurd c_145 (by omega)
              · exact absurd c_126 (by omega)
            · exact absurd c_106 (by omega)
          · exact absurd c_92 (by omega)
        · exact absurd c_56 (by omega)
    · refine k_callV (wc := [(m0, .inr (5, [.ref yb, .ref yz, .ref ye, .int (nI dz), .int (nI sz), .int (nI wz), .int (nI bz), .int (nI uS), .int (nI uW), .ref ys, .ref yg, .int (nI rf), .int (nI lt), .int (nI 0), .int (nI al), .ref yf, .ref yh, .ref yw, .ref yn, .ref yt, .ref yl, .int (nI t)])), (yz, .inl (cI, 3, .inl (zf ko kn kr)))]) (wr := [(yb, .inl (cB, 6000, .inl B)), (ys, .inl (cI, 2000, .inl S)), (yg, .inl (cB, 32000, .inl G)), (yf, .inl (cB, 2112, .inl F1)), (yw, .inl (cI, 16, .inl V1)), (yh, .inl (cI, 4, .inl H1)), (yn, .inl (cI, 64, .inl KN)), (yt, .inl (cI, 16, .inl KT)), (ye, .inl (cB, 8100, .inl E)), (yl, .inl (cI, 2000, .inl Tt))]) (As := [.int (nI p), .int (lF la)]) (n := 2) (st := []) (q0 := 0) X (m_blockAt_f l D cI cB m0 yb yz ye ys yg yf yh yw yn yt yl dz sz wz bz uS uW rf lt 0 al t ko kn kr p (lF la) (hn) (by omega) (hu) (hpb)) rfl rfl ml_X5_172 im_X5_blockAt se_X5_blockAt ini_X5 co_X5_blockAt (by decide +kernel) rfl ⟨Nat.le_of_ble_eq_true rfl, Nat.le_of_ble_eq_true rfl⟩ (⟨by (try dsimp only); omega, by (try dsimp only); omega⟩) (Nat.le_of_ble_eq_true rfl) [0, 2] [1, 3, 4, 5, 6, 7, 8, 9, 10, 11] rfl rfl rfl (by decide) (by decide) (by decide) rfl dX5_delta_42 (fun v_42 u_42 hu_42 => ?_)
      obtain ⟨rfl, rfl⟩ := hu_42
      refine k_to (ws' := [(yb, .inl (cB, 6000, .inl B)), (ys, .inl (cI, 2000, .inl S)), (yg, .inl (cB, 32000, .inl G)), (yf, .inl (cB, 2112, .inl F1)), (yw, .inl (cI, 16, .inl V1)), (yh, .inl (cI, 4, .inl H1)), (yn, .inl (cI, 64, .inl KN)), (yt, .inl (cI, 16, .inl KT)), (ye, .inl (cB, 8100, .inl E)), (yl, .inl (cI, 2000, .inl Tt)), (m0, .inr (5, [.ref yb, .ref yz, .ref ye, .int (nI dz), .int (nI sz), .int (nI wz), .int (nI bz), .int (nI uS), .int (nI uW), .ref ys, .ref yg, .int (nI rf), .int (nI lt), .int (nI 0), .int (nI al), .ref yf, .ref yh, .ref yw, .ref yn, .ref yt, .ref yl, .int (nI t)])), (yz, .inl (cI, 3, .inl (zf ko kn kr)))]) (st' := [.int (-1)]) rfl rfl ?_
      have htB : tB f kn uS uW bz S G p la = -1 := (tB_no hpb).1
      refine k_ws (ws' := [(yb, .inl (cB, 6000, .inl B)), (ys, .inl (cI, 2000, .inl S)), (yg, .inl (cB, 32000, .inl G)), (yf, .inl (cB, 2112, .inl F1)), (yw, .inl (cI, 16, .inl V1)), (yh, .inl (cI, 4, .inl H1)), (yn, .inl (cI, 64, .inl KN)), (yt, .inl (cI, 16, .inl KT)), (ye, .inl (cB, 8100, .inl E)), (yl, .inl (cI, 2000, .inl Tt)), (m0, .inr (5, [.ref yb, .ref yz, .ref ye, .int (nI dz), .int (nI sz), .int (nI wz), .int (nI bz), .int (nI uS), .int (nI uW), .ref ys, .ref yg, .int (nI rf), .int (nI lt), .int (nI 0), .int (nI (al + tA f kn uS uW bz S G p la)), .ref yf, .ref yh, .ref yw, .ref yn, .ref yt, .ref yl, .int (nI t)])), (yz, .inl (cI, 3, .inl (zf ko kn kr)))]) (by rw [(tB_no hpb).2]; rfl) ?_
      have hnx := dA_l hI.1 (by omega) htB
      have hA1 := tA_le f kn uS uW bz S G p la
      refine k_istore_n (lv' := [(3, .int (-1)), (0, .ref m0), (1, .int (nI p)), (2, .int (lF la))]) X dX5_delta_45 rfl (by decide) rfl ?_
      refine k_aload_n X dX5_delta_46 rfl 1 rfl ?_
      refine k_get (v := .ref yl) X 10 5 20 rfl rfl (by decide) fl_X5_118 in_X5 rfl rfl dX5_delta_47 ?_
      refine k_aload_n X dX5_delta_50 rfl 1 rfl ?_
      refine k_get (v := .int (nI t)) X 10 5 21 rfl rfl (by decide) fl_X5_169 in_X5 rfl rfl dX5_delta_51 ?_
      refine k_iload_n X dX5_delta_54 rfl 0 rfl ?_
      refine k_iconst (v := -1) X dX5_delta_55 (by decide) ?_
      refine k_icmp_ne (tgt := 78) (xi := (-1 : Int)) (yi := (-1 : Int)) X (by decide) (by decide) dX5_delta_56 (by decide) (fun c_56 => ?_) (fun c_56 => ?_)
      · exact absurd c_56 (by decide)
      · refine k_iconst (v := -1) X dX5_delta_59 (by decide) ?_
        refine k_aload_n X dX5_delta_60 rfl 1 rfl ?_
        refine k_get (v := .ref yb) X 10 5 0 rfl rfl (by decide) fl_X5_7 in_X5 rfl rfl dX5_delta_61 ?_
        refine k_sipush (v := 2000) X dX5_delta_64 (by decide) ?_
        refine k_iload_n X dX5_delta_67 rfl 2 rfl ?_
        refine k_iadd X dX5_delta_68 ?_
        refine k_as (y := nI (2000 + p)) (nI_add 2000 p) ?_
        refine k_bald (v := B (2000 + p)) X 0 rfl (vp_in_nI (n := 2000 + p) (by omega) (by omega)) (by rw [nI_clamp (n := 2000 + p) (by omega)]) dX5_delta_69 ?_
        refine k_sipush (v := 255) X dX5_delta_70 (by decide) ?_
        refine k_iand X dX5_delta_73 ?_
        refine k_as (y := f p) (hBy p (by omega)) ?_
        refine k_isub X dX5_delta_74 ?_
        refine k_goto (tgt := 79) X dX5_delta_75 (by decide) ?_
        refine k_iast (f' := upd Tt t ((-1) - (f p))) (ws' := [(yb, .inl (cB, 6000, .inl B)), (ys, .inl (cI, 2000, .inl S)), (yg, .inl (cB, 32000, .inl G)), (yf, .inl (cB, 2112, .inl F1)), (yw, .inl (cI, 16, .inl V1)), (yh, .inl (cI, 4, .inl H1)), (yn, .inl (cI, 64, .inl KN)), (yt, .inl (cI, 16, .inl KT)), (ye, .inl (cB, 8100, .inl E)), (yl, .inl (cI, 2000, .inl (upd Tt t ((-1) - (f p))))), (m0, .inr (5, [.ref yb, .ref yz, .ref ye, .int (nI dz), .int (nI sz), .int (nI wz), .int (nI bz), .int (nI uS), .int (nI uW), .ref ys, .ref yg, .int (nI rf), .int (nI lt), .int (nI 0), .int (nI (al + tA f kn uS uW bz S G p la)), .ref yf, .ref yh, .ref yw, .ref yn, .ref yt, .ref yl, .int (nI t)])), (yz, .inl (cI, 3, .inl (zf ko kn kr)))]) X 9 rfl (vp_in_nI (n := t) (by omega) (by omega)) (by rw [nI_clamp (n := t) (by omega)]) rfl dX5_delta_79 ?_
        refine k_aload_n X dX5_delta_80 rfl 1 rfl ?_
        refine k_dup X dX5_delta_81 rfl ?_
        refine k_get (v := .int (nI t)) X 10 5 21 rfl rfl (by decide) fl_X5_169 in_X5 rfl rfl dX5_delta_82 ?_
        refine k_iconst (v := 1) X dX5_delta_85 (by decide) ?_
        refine k_iadd X dX5_delta_86 ?_
        refine k_as (y := nI (t + 1)) (nI_1 _) ?_
        refine k_put (v := .int (nI (t + 1))) (ty := .int) (ws' := [(yb, .inl (cB, 6000, .inl B)), (ys, .inl (cI, 2000, .inl S)), (yg, .inl (cB, 32000, .inl G)), (yf, .inl (cB, 2112, .inl F1)), (yw, .inl (cI, 16, .inl V1)), (yh, .inl (cI, 4, .inl H1)), (yn, .inl (cI, 64, .inl KN)), (yt, .inl (cI, 16, .inl KT)), (ye, .inl (cB, 8100, .inl E)), (yl, .inl (cI, 2000, .inl (upd Tt t ((-1) - (f p))))), (m0, .inr (5, [.ref yb, .ref yz, .ref ye, .int (nI dz), .int (nI sz), .int (nI wz), .int (nI bz), .int (nI uS), .int (nI uW), .ref ys, .ref yg, .int (nI rf), .int (nI lt), .int (nI 0), .int (nI (al + tA f kn uS uW bz S G p la)), .ref yf, .ref yh, .ref yw, .ref yn, .ref yt, .ref yl, .int (nI (t + 1))])), (yz, .inl (cI, 3, .inl (zf ko kn kr)))]) X 10 5 21 tyX5 tyX5_ok nmX5 rfl rfl (by decide) fl_X5_169 in_X5 rfl rfl (by decide +kernel) rfl rfl (Nat.le_of_ble_eq_true rfl) rfl dX5_delta_87 ?_
        refine k_iload_n X dX5_delta_90 rfl 0 rfl ?_
        refine k_iconst (v := -1) X dX5_delta_91 (by decide) ?_
        refine k_icmp_ne (tgt := 99) (xi := (-1 : Int)) (yi := (-1 : Int)) X (by decide) (by decide) dX5_delta_92 (by decide) (fun c_92 => ?_) (fun c_92 => ?_)
        · exact absurd c_92 (by decide)
        · refine k_iconst (v := -1) X dX5_delta_95 (by decide) ?_
          refine k_goto (tgt := 102) X dX5_delta_96 (by decide) ?_
          refine k_as (y := lF (-1)) (lF_m1) ?_
          refine k_istore_n (lv' := [(2, .int (lF (-1))), (3, .int (-1)), (0, .ref m0), (1, .int (nI p))]) X dX5_delta_102 rfl (by decide) rfl ?_
          refine k_iload_n X dX5_delta_103 rfl 3 rfl ?_
          refine k_iload_n X dX5_delta_104 rfl 1 rfl ?_
          refine k_iconst (v := -1) X dX5_delta_105 (by decide) ?_
          refine k_icmp_ne (tgt := 113) (xi := (-1 : Int)) (yi := (-1 : Int)) X (by decide) (by decide) dX5_delta_106 (by decide) (fun c_106 => ?_) (fun c_106 => ?_)
          · exact absurd c_106 (by decide)
          · refine k_iconst (v := 1) X dX5_delta_109 (by decide) ?_
            refine k_goto (tgt := 117) X dX5_delta_110 (by decide) ?_
            refine k_iadd X dX5_delta_117 ?_
            refine k_as (y := nI (p + 1)) (nI_1 _) ?_
            refine k_istore_n (lv' := [(1, .int (nI (p + 1))), (2, .int (lF (-1))), (3, .int (-1)), (0, .ref m0)]) X dX5_delta_118 rfl (by decide) rfl ?_
            refine k_aload_n X dX5_delta_119 rfl 3 rfl ?_
            refine k_dup X dX5_delta_120 rfl ?_
            refine k_get (v := .int (nI rf)) X 10 5 11 rfl rfl (by decide) fl_X5_160 in_X5 rfl rfl dX5_delta_121 ?_
            refine k_iload_n X dX5_delta_124 rfl 2 rfl ?_
            refine k_iconst (v := -1) X dX5_delta_125 (by decide) ?_
            refine k_icmp_ne (tgt := 133) (xi := (-1 : Int)) (yi := (-1 : Int)) X (by decide) (by decide) dX5_delta_126 (by decide) (fun c_126 => ?_) (fun c_126 => ?_)
            · exact absurd c_126 (by decide)
            · refine k_iconst (v := 0) X dX5_delta_129 (by decide) ?_
              refine k_goto (tgt := 134) X dX5_delta_130 (by decide) ?_
              refine k_iadd X dX5_delta_134 ?_
              refine k_as (y := nI rf) (nI_add rf 0) ?_
              refine k_put (v := .int (nI rf)) (ty := .int) (ws' := [(yb, .inl (cB, 6000, .inl B)), (ys, .inl (cI, 2000, .inl S)), (yg, .inl (cB, 32000, .inl G)), (yf, .inl (cB, 2112, .inl F1)), (yw, .inl (cI, 16, .inl V1)), (yh, .inl (cI, 4, .inl H1)), (yn, .inl (cI, 64, .inl KN)), (yt, .inl (cI, 16, .inl KT)), (ye, .inl (cB, 8100, .inl E)), (yl, .inl (cI, 2000, .inl (upd Tt t ((-1) - (f p))))), (m0, .inr (5, [.ref yb, .ref yz, .ref ye, .int (nI dz), .int (nI sz), .int (nI wz), .int (nI bz), .int (nI uS), .int (nI uW), .ref ys, .ref yg, .int (nI rf), .int (nI lt), .int (nI 0), .int (nI (al + tA f kn uS uW bz S G p la)), .ref yf, .ref yh, .ref yw, .ref yn, .ref yt, .ref yl, .int (nI (t + 1))])), (yz, .inl (cI, 3, .inl (zf ko kn kr)))]) X 10 5 11 tyX5 tyX5_ok nmX5 rfl rfl (by decide) fl_X5_160 in_X5 rfl rfl (by decide +kernel) rfl rfl (Nat.le_of_ble_eq_true rfl) rfl dX5_delta_135 ?_
              refine k_aload_n X dX5_delta_138 rfl 3 rfl ?_
              refine k_dup X dX5_delta_139 rfl ?_
              refine k_get (v := .int (nI lt)) X 10 5 12 rfl rfl (by decide) fl_X5_163 in_X5 rfl rfl dX5_delta_140 ?_
              refine k_iload_n X dX5_delta_143 rfl 2 rfl ?_
              refine k_iconst (v := -1) X dX5_delta_144 (by decide) ?_
              refine k_icmp_ne (tgt := 152) (xi := (-1 : Int)) (yi := (-1 : Int)) X (by decide) (by decide) dX5_delta_145 (by decide) (fun c_145 => ?_) (fun c_145 => ?_)
              · exact absurd c_145 (by decide)
              · refine k_iconst (v := 1) X dX5_delta_148 (by decide) ?_
                refine k_goto (tgt := 153) X dX5_delta_149 (by decide) ?_
                refine k_iadd X dX5_delta_153 ?_
                refine k_as (y := nI (lt + 1)) (nI_1 _) ?_
                refine k_put (v := .int (nI (lt + 1))) (ty := .int) (ws' := [(yb, .inl (cB, 6000, .inl B)), (ys, .inl (cI, 2000, .inl S)), (yg, .inl (cB, 32000, .inl G)), (yf, .inl (cB, 2112, .inl F1)), (yw, .inl (cI, 16, .inl V1)), (yh, .inl (cI, 4, .inl H1)), (yn, .inl (cI, 64, .inl KN)), (yt, .inl (cI, 16, .inl KT)), (ye, .inl (cB, 8100, .inl E)), (yl, .inl (cI, 2000, .inl (upd Tt t ((-1) - (f p))))), (m0, .inr (5, [.ref yb, .ref yz, .ref ye, .int (nI dz), .int (nI sz), .int (nI wz), .int (nI bz), .int (nI uS), .int (nI uW), .ref ys, .ref yg, .int (nI rf), .int (nI (lt + 1)), .int (nI 0), .int (nI (al + tA f kn uS uW bz S G p la)), .ref yf, .ref yh, .ref yw, .ref yn, .ref yt, .ref yl, .int (nI (t + 1))])), (yz, .inl (cI, 3, .inl (zf ko kn kr)))]) X 10 5 12 tyX5 tyX5_ok nmX5 rfl rfl (by decide) fl_X5_163 in_X5 rfl rfl (by decide +kernel) rfl rfl (Nat.le_of_ble_eq_true rfl) rfl dX5_delta_154 ?_
                refine k_goto (tgt := 29) X dX5_delta_157 (by decide) ?_
                refine k_lv (lv' := [(0, .ref m0), (1, .int (nI (p + 1))), (2, .int (lF (-1)))]) [3, 0, 1] rfl ?_
                refine k_sub (ws' := [(m0, .inr (5, [.ref yb, .ref yz, .ref ye, .int (nI dz), .int (nI sz), .int (nI wz), .int (nI bz), .int (nI uS), .int (nI uW), .ref ys, .ref yg, .int (nI rf), .int (nI (lt + 1)), .int (nI 0), .int (nI (al + tA f kn uS uW bz S G p la)), .ref yf, .ref yh, .ref yw, .ref yn, .ref yt, .ref yl, .int (nI (t + 1))])), (yb, .inl (cB, 6000, .inl B)), (yz, .inl (cI, 3, .inl (zf ko kn kr))), (ys, .inl (cI, 2000, .inl S)), (yg, .inl (cB, 32000, .inl G)), (yf, .inl (cB, 2112, .inl F1)), (yw, .inl (cI, 16, .inl V1)), (yh, .inl (cI, 4, .inl H1)), (yn, .inl (cI, 64, .inl KN)), (yt, .inl (cI, 16, .inl KT)), (ye, .inl (cB, 8100, .inl E)), (yl, .inl (cI, 2000, .inl (upd Tt t ((-1) - (f p)))))]) [10, 0, 11, 1, 2, 3, 4, 5, 6, 7, 8, 9] (by decide) rfl rfl ?_
                refine k_wide (k := 0) (n := 0) (by (try dsimp only); omega) (by (try dsimp only); omega) ?_
                exact ih (t + 1) (p + 1) (-1) rf (lt + 1) (al + tA f kn uS uW bz S G p la) (upd Tt t ((-1) - (f p))) F1 V1 H1 (⟨hnx.1, by omega, lt_s (fun i hi => by rw [pk_un (by omega)]; exact hI.2.2.1 i hi) (by rw [pk_us, hnx.2]), lt_s hI.2.2.2 (by rw [hI.1.1]; omega)⟩) (by omega)
