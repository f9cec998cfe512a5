/-! what the law needs of numbers: room, bytes, equal signatures -/
def pot (mo n : Nat) : Nat := 2 * n + (if n = mo then mo else 0)
theorem pot_step {mo n w : Nat} (hn : n ≤ mo) (hw : w ≤ mo) : rCost mo n w + pot mo n ≤ pot mo (rCap mo n w) := by
  unfold rCost rCap pot
  by_cases h : w ≤ n
  · rw [if_pos h, if_pos h]; omega
  · rw [if_neg h, if_neg h]
    by_cases e : max w (min mo (2 * n)) = mo
    · rw [if_pos e]
      rw [if_neg (show ¬ n = mo by omega)]
      omega
    · rw [if_neg e, if_neg (show ¬ n = mo by omega)]
      omega
theorem pot_le {mo n : Nat} (hn : n ≤ mo) : pot mo n ≤ 3 * mo := by
  unfold pot
  split <;> omega
theorem gs_pot {n0 : Nat} (h1 : 1 ≤ n0) (h0 : n0 ≤ 8000) : ∀ k, k ≤ 8000 → gs n0 k + pot 8000 n0 ≤ pot 8000 (gc n0 k) := by
  intro k
  induction k with
  | zero => intro _; show 0 + _ ≤ _; rw [Nat.zero_add]; exact Nat.le_refl _
  | succ k ih =>
    intro hk
    have a := ih (by omega)
    have b := pot_step (mo := 8000) (n := gc n0 k) (w := k + 1) (gc_ok h1 h0 k (by omega)).2.1 hk
    show gs n0 k + rCost 8000 (gc n0 k) (k + 1) + _ ≤ pot 8000 (rCap 8000 (gc n0 k) (k + 1))
    omega
theorem aI_pot {ft : Nat → Int32} {kt : Nat} {fo : Nat → Int32} {ko bs n0 : Nat} (h0 : n0 ≤ 2000) (h1 : 1 ≤ n0) : ∀ t, (aI ft kt fo ko bs n0 t).2.2.2.1 + pot 2000 n0 ≤ pot 2000 (aI ft kt fo ko bs n0 t).2.2.1 ∧ (aI ft kt fo ko bs n0 t).2.2.1 ≤ 2000 ∧ 1 ≤ (aI ft kt fo ko bs n0 t).2.2.1 := by
  intro t
  induction t with
  | zero => exact ⟨by show 0 + _ ≤ _; rw [Nat.zero_add]; exact Nat.le_refl _, h0, h1⟩
  | succ t ih =>
    rcases hq : aI ft kt fo ko bs n0 t with ⟨d, m, n, s, c, bad⟩
    rw [hq] at ih
    dsimp only at ih
    show (aStep ft kt fo ko bs (aI ft kt fo ko bs n0 t)).2.2.2.1 + _ ≤ pot 2000 (aStep ft kt fo ko bs (aI ft kt fo ko bs n0 t)).2.2.1 ∧ (aStep ft kt fo ko bs (aI ft kt fo ko bs n0 t)).2.2.1 ≤ 2000 ∧ 1 ≤ (aStep ft kt fo ko bs (aI ft kt fo ko bs n0 t)).2.2.1
    rw [hq]
    unfold aStep
    dsimp only
    by_cases hs : bad = true ∨ kt ≤ d
    · rw [if_pos hs]; exact ih
    · rw [if_neg hs]
      by_cases h0 : aOk0 ft kt d m
      · rw [if_pos h0]
        have p := pot_step (mo := 2000) (n := n) (w := m + tb ft (d + 1)) ih.2.1 h0.2.2.2.2
        have q := cap_ok (mo := 2000) (n := n) (w := m + tb ft (d + 1)) ih.2.1 h0.2.2.2.2 ih.2.2
        exact ⟨by dsimp only; omega, q.2.1, q.2.2.1⟩
      · rw [if_neg h0]
        by_cases h1 : aOk1 ft kt ko bs d m
        · rw [if_pos h1]
          have p := pot_step (mo := 2000) (n := n) (w := m + tb ft (d + 3) * bs) ih.2.1 h1.2.2.2.2
          have q := cap_ok (mo := 2000) (n := n) (w := m + tb ft (d + 3) * bs) ih.2.1 h1.2.2.2.2 ih.2.2
          exact ⟨by dsimp only; omega, q.2.1, q.2.2.1⟩
        · rw [if_neg h1]; exact ih
theorem cst4_pot {n k : Nat} (hn : n ≤ 2000) (h1 : 1 ≤ n) (hk : k + 4 ≤ 2000) : cst4 n k + pot 2000 n ≤ pot 2000 (cap4 n k) ∧ k + 4 ≤ cap4 n k ∧ cap4 n k ≤ 2000 ∧ 1 ≤ cap4 n k := by
  have a1 := cap_ok (mo := 2000) (n := n) (w := k + 1) hn (by omega) h1
  have p1 := pot_step (mo := 2000) (n := n) (w := k + 1) hn (by omega)
  have a2 := cap_ok (mo := 2000) (n := rCap 2000 n (k + 1)) (w := k + 1 + 1) a1.2.1 (by omega) a1.2.2.1
  have p2 := pot_step (mo := 2000) (n := rCap 2000 n (k + 1)) (w := k + 1 + 1) a1.2.1 (by omega)
  have a3 := cap_ok (mo := 2000) (n := rCap 2000 (rCap 2000 n (k + 1)) (k + 1 + 1)) (w := k + 1 + 1 + 1) a2.2.1 (by omega) a2.2.2.1
  have p3 := pot_step (mo := 2000) (n := rCap 2000 (rCap 2000 n (k + 1)) (k + 1 + 1)) (w := k + 1 + 1 + 1) a2.2.1 (by omega)
  have a4 := cap_ok (mo := 2000) (n := rCap 2000 (rCap 2000 (rCap 2000 n (k + 1)) (k + 1 + 1)) (k + 1 + 1 + 1)) (w := k + 1 + 1 + 1 + 1) a3.2.1 (by omega) a3.2.2.1
  have p4 := pot_step (mo := 2000) (n := rCap 2000 (rCap 2000 (rCap 2000 n (k + 1)) (k + 1 + 1)) (k + 1 + 1 + 1)) (w := k + 1 + 1 + 1 + 1) a3.2.1 (by omega)
  unfold cst4 cap4
  exact ⟨by omega, a4.1, a4.2.1, a4.2.2.1⟩
/-! bytes -/
theorem i8_ext {x y : Int32} (h : ∀ i, i < 8 → bt x i = bt y i) : x.toInt8 = y.toInt8 := by
  apply Int8.toBitVec_inj.mp
  rw [Int32.toBitVec_toInt8, Int32.toBitVec_toInt8]
  apply BitVec.eq_of_getLsbD_eq
  intro i hi
  rw [BitVec.getLsbD_signExtend, BitVec.getLsbD_signExtend]
  have := h i hi
  unfold bt at this
  simp only [show i < 32 by omega, if_true, this]
theorem sx_and (x : Int32) : sx (x &&& 255) = sx x := by
  unfold sx
  rw [i8_ext (x := x &&& 255) (y := x) (fun i hi => by rw [b_and, b_255, decide_eq_true hi, Bool.and_true])]
theorem sx_shr (n : Nat) (hn : n ≤ 24) (v : Int32) : sx (v.toUInt32 >>> ((nI n).toUInt32 &&& Int32.toUInt32 31)).toInt32 = (v >>> (nI n &&& 31)).toInt8.toInt32 := by
  unfold sx
  rw [i8_ext (x := (v.toUInt32 >>> ((nI n).toUInt32 &&& Int32.toUInt32 31)).toInt32) (y := v >>> (nI n &&& 31)) (fun i hi => by rw [b_ushr n (by omega), b_sshr n (by omega) v (by omega), if_pos (by omega)])]
theorem fd_0 (v : Int32) : sx (fdB v 0) = (v >>> ((24 : Int32) &&& 31)).toInt8.toInt32 := (sx_and _).trans (sx_shr 24 (by omega) v)
theorem fd_1 (v : Int32) : sx (fdB v 1) = (v >>> ((16 : Int32) &&& 31)).toInt8.toInt32 := (sx_and _).trans (sx_shr 16 (by omega) v)
theorem fd_2 (v : Int32) : sx (fdB v 2) = (v >>> ((8 : Int32) &&& 31)).toInt8.toInt32 := (sx_and _).trans (sx_shr 8 (by omega) v)
theorem fd_3 (v : Int32) : sx (fdB v 3) = (v >>> ((0 : Int32) &&& 31)).toInt8.toInt32 := (sx_and _).trans (sx_shr 0 (by omega) v)
theorem fd_byte (v : Int32) : ∀ j, j < 4 → rByte (fdB v j) := by
  intro j hj
  rcases (show j = 0 ∨ j = 1 ∨ j = 2 ∨ j = 3 by omega) with rfl | rfl | rfl | rfl <;> exact and255 _
theorem fed_by {f f9 : Nat → Int32} {k : Nat} {v : Int32} (h : ∀ j, j < k → rByte (f j)) (h1 : ∀ j, j < k → f9 j = f j) (h2 : ∀ j, j < 4 → f9 (k + j) = fdB v j) : ∀ j, j < k + 4 → rByte (f9 j) := by
  intro j hj
  by_cases e : j < k
  · rw [h1 j e]; exact h j e
  · rw [show j = k + (j - k) by omega, h2 (j - k) (by omega)]
    exact fd_byte v _ (by omega)
theorem fed_B {f f9 B B9 : Nat → Int32} {base k : Nat} {v : Int32} (h : ∀ j, j < k → B (base + j) = sx (f j)) (h1 : ∀ j, j < k → f9 j = f j) (h2 : ∀ j, j < 4 → f9 (k + j) = fdB v j) (b1 : ∀ j, j < base + k ∨ base + k + 4 ≤ j → B9 j = B j)
    (b2 : B9 (base + k) = (v >>> ((24 : Int32) &&& 31)).toInt8.toInt32 ∧ B9 (base + k + 1) = (v >>> ((16 : Int32) &&& 31)).toInt8.toInt32 ∧ B9 (base + k + 2) = (v >>> ((8 : Int32) &&& 31)).toInt8.toInt32 ∧ B9 (base + k + 3) = (v >>> ((0 : Int32) &&& 31)).toInt8.toInt32) : ∀ j, j < k + 4 → B9 (base + j) = sx (f9 j) := by
  intro j hj
  by_cases e : j < k
  · rw [b1 _ (by omega), h j e, h1 j e]
  · rcases (show j = k + 0 ∨ j = k + 1 ∨ j = k + 2 ∨ j = k + 3 by omega) with rfl | rfl | rfl | rfl
    · have h20 := h2 0 (by omega)
      rw [show j + 0 = j from rfl] at h20
      rw [h20, fd_0]; exact b2.1
    · rw [h2 1 (by omega), fd_1, ← b2.2.1]; rfl
    · rw [h2 2 (by omega), fd_2, ← b2.2.2.1]; rfl
    · rw [h2 3 (by omega), fd_3, ← b2.2.2.2]; rfl
theorem sx_inj {a b : Int32} (ha : rByte a) (hb : rByte b) (h : sx a = sx b) : a = b := by rw [← sx_255 ha, ← sx_255 hb, h]
theorem rSet_by {f : Nat → Int32} {k : Nat} {x b : Int32} (h : ∀ j, j < k → rByte (f j)) : ∀ j, j < k → rByte (rSet f k x b j) := by
  intro j hj
  unfold rSet
  split
  · rename_i c
    by_cases e : j = x.toNatClampNeg
    · rw [e, pk_us]; exact c.2
    · rw [pk_un e]; exact h j hj
  · exact h j hj
theorem rSet_B {f B : Nat → Int32} {k base : Nat} {x b : Int32} (h : ∀ j, j < k → B (base + j) = sx (f j)) : ∀ j, j < k → (if rIn x k ∧ rByte b then upd B (base + x.toNatClampNeg) b.toInt8.toInt32 else B) (base + j) = sx (rSet f k x b j) := by
  intro j hj
  unfold rSet
  by_cases c : rIn x k ∧ rByte b
  · rw [if_pos c, if_pos c]
    by_cases e : j = x.toNatClampNeg
    · rw [e, pk_us, pk_us]; rfl
    · rw [pk_un (by omega), pk_un e]; exact h j hj
  · rw [if_neg c, if_neg c]; exact h j hj
theorem put_o {B : Nat → Int32} {c : Prop} [Decidable c] {i j : Nat} {v : Int32} (h : c → j ≠ i) : (if c then upd B i v else B) j = B j := by
  by_cases e : c
  · rw [if_pos e, pk_un (h e)]
  · rw [if_neg e]
/-! one signature, two tables -/
theorem cN_c {P Q : Nat → Bool} {nb : Nat} (h : ∀ b, b < nb → P b = Q b) : ∀ i, cN P nb i = cN Q nb i := by
  intro i
  rcases cN_cases P nb i with ⟨e, hno⟩ | ⟨b, h1, h2, h3, h4, e⟩
  · rw [e, cN_none (fun b a c => by rw [← h b c]; exact hno b a c)]
  · rw [e, cN_is h1 h2 (by rw [← h b h2]; exact h3) (fun a x y => by rw [← h a (by omega)]; exact h4 a x y)]
theorem hB_c {dg G h : Nat → Int32} {wd nb b : Nat} (hw : wd ≤ 16) (hb : b < nb) (hg : ∀ j, j < 16 * nb → G j = dg j) : hB dg h wd b = hB G h wd b := by
  apply Bool.eq_iff_iff.mpr
  rw [hB_iff, hB_iff]
  constructor
  · intro z k hk; rw [hg _ (by omega)]; exact z k hk
  · intro z k hk; rw [← hg _ (by omega)]; exact z k hk
theorem tB_c {f : Nat → Int32} {kn bs wd nb : Nat} {sm dg S G : Nat → Int32} (hw : wd ≤ 16) (hs : ∀ b, b < nb → S b = sm b) (hg : ∀ j, j < 16 * nb → G j = dg j) (p : Nat) (la : Int32) : tB f kn bs wd nb sm dg p la = tB f kn bs wd nb S G p la ∧ tA f kn bs wd nb sm dg p la = tA f kn bs wd nb S G p la := by
  have e1 : ∀ x, cN (pS sm x) nb 0 = cN (pS S x) nb 0 := fun x => cN_c (fun b hb => by unfold pS; rw [hs b hb]) 0
  have e2 : ∀ h x b, b < nb → pD sm dg h wd x b = pD S G h wd x b := fun h x b hb => by unfold pD; rw [hs b hb, hB_c hw hb hg]
  have e3 : ∀ h x fv, fnd sm dg h nb wd x fv = fnd S G h nb wd x fv := by
    intro h x fv
    have ef : fOk sm dg h nb wd x fv = fOk S G h nb wd x fv := by
      unfold fOk
      by_cases hr : rIn fv nb
      · rw [e2 _ _ _ (i_of hr.1 hr.2).1]
      · rw [decide_eq_false hr, Bool.false_and, Bool.false_and]
    unfold fnd
    rw [ef, cN_c (fun b hb => e2 h x b hb)]
  have e4 : tB f kn bs wd nb sm dg p la = tB f kn bs wd nb S G p la := by unfold tB; rw [e3]
  refine ⟨e4, ?_⟩
  unfold tA
  rw [e1, e4]
theorem dI_c {f : Nat → Int32} {kn bs wd nb : Nat} {sm dg S G : Nat → Int32} (hw : wd ≤ 16) (hs : ∀ b, b < nb → S b = sm b) (hg : ∀ j, j < 16 * nb → G j = dg j) : ∀ t, dI f kn bs wd nb S G t = dI f kn bs wd nb sm dg t := by
  intro t
  induction t with
  | zero => rfl
  | succ t ih =>
    show dStep f kn bs wd nb S G (dI f kn bs wd nb S G t) = dStep f kn bs wd nb sm dg (dI f kn bs wd nb sm dg t)
    rw [ih]
    obtain ⟨p, la, rf, lt, al, k, g, ro, ir, ia⟩ := dI f kn bs wd nb sm dg t
    unfold dStep
    dsimp only
    rw [(tB_c hw hs hg p la).1, (tB_c hw hs hg p la).2]
theorem dI_by {f : Nat → Int32} {kn bs wd nb : Nat} {sm dg : Nat → Int32} (h1 : 1 ≤ bs) (hnb : nb ≤ 2000) (hf : ∀ j, j < kn → rByte (f j)) : ∀ t, ∀ j, j < dK (dI f kn bs wd nb sm dg t) → rByte ((dI f kn bs wd nb sm dg t).2.2.2.2.2.2.1 j) := by
  intro t
  induction t with
  | zero => intro j hj; exact absurd hj (Nat.not_lt_zero j)
  | succ t ih =>
    have hok := dI_ok f kn bs wd nb sm dg h1 hnb t
    rcases hd : dI f kn bs wd nb sm dg t with ⟨p, la, rf, lt, al, k, g, ro, ir, ia⟩
    rw [hd] at ih hok
    obtain ⟨a1, a2, a3, a4, a5, a6, a7, a8, a9⟩ := hok
    have ih2 : ∀ j, j < k → rByte (g j) := ih
    by_cases hp : kn ≤ p
    · have e : dI f kn bs wd nb sm dg (t + 1) = (p, la, rf, lt, al, k, g, ro, ir, ia) := by
        show dStep f kn bs wd nb sm dg (dI f kn bs wd nb sm dg t) = _
        rw [hd]
        exact dStep_stop hp
      rw [e]
      exact ih2
    · rcases tB_cases f kn bs wd nb sm dg p la with hb | ⟨hpb, bn, hbn, hb⟩
      · by_cases hg : la = -1 ∧ 0 < ir ∧ ir < 255
        · rw [dS_lg hd (by omega) hb hg.1 hg.2]
          intro j hj
          show rByte (litGrow k g ia ir (f p) j)
          have hj2 : j < k + 1 := hj
          unfold litGrow
          by_cases e : j = k
          · rw [e, pk_us]; exact hf p (by omega)
          · rw [pk_un e]
            by_cases e2 : j = ia
            · rw [e2, pk_us]; exact rByte_nI (by omega)
            · rw [pk_un e2]; exact ih2 j (by omega)
        · rw [dS_lo hd (by omega) hb hg]
          intro j hj
          show rByte (litOpen k g (f p) j)
          have hj2 : j < k + 3 := hj
          unfold litOpen
          by_cases e : j = k + 2
          · rw [e, pk_us]; exact hf p (by omega)
          · rw [pk_un e]
            by_cases e2 : j = k + 1
            · rw [e2, pk_us]; exact byte1
            · rw [pk_un e2]
              by_cases e3 : j = k
              · rw [e3, pk_us]; exact byte0
              · rw [pk_un e3]; exact ih2 j (by omega)
      · by_cases hg : ¬ la = -1 ∧ nI bn = la + 1 ∧ ir < 255
        · rw [dS_rg hd (by omega) hb (by omega) hg]
          intro j hj
          show rByte (refGrow g ia ir j)
          have hj2 : j < k := hj
          unfold refGrow
          by_cases e2 : j = ia
          · rw [e2, pk_us]; exact rByte_nI (by omega)
          · rw [pk_un e2]; exact ih2 j (by omega)
        · rw [dS_ro hd (by omega) hb (by omega) hg]
          intro j hj
          show rByte (refOpen k g bn j)
          have hj2 : j < k + 4 := hj
          unfold refOpen
          by_cases e : j = k + 3
          · rw [e, pk_us]; exact byte1
          · rw [pk_un e]
            by_cases e2 : j = k + 2
            · rw [e2, pk_us]; exact rByte_nI (by omega)
            · rw [pk_un e2]
              by_cases e3 : j = k + 1
              · rw [e3, pk_us]; exact rByte_nI (by omega)
              · rw [pk_un e3]
                by_cases e4 : j = k
                · rw [e4, pk_us]; exact byte1
                · rw [pk_un e4]; exact ih2 j (by omega)
theorem aI_by {ft : Nat → Int32} {kt : Nat} {fo : Nat → Int32} {ko bs n0 : Nat} (ht : ∀ j, j < kt → rByte (ft j)) (ho : ∀ j, j < ko → rByte (fo j)) : ∀ t, ∀ j, j < (aI ft kt fo ko bs n0 t).2.1 → rByte ((aI ft kt fo ko bs n0 t).2.2.2.2.1 j) := by
  intro t
  induction t with
  | zero => intro j hj; exact absurd hj (Nat.not_lt_zero j)
  | succ t ih =>
    rcases hq : aI ft kt fo ko bs n0 t with ⟨d, m, n, s, c, bad⟩
    rw [hq] at ih
    have ih2 : ∀ j, j < m → rByte (c j) := ih
    show ∀ j, j < (aStep ft kt fo ko bs (aI ft kt fo ko bs n0 t)).2.1 → rByte ((aStep ft kt fo ko bs (aI ft kt fo ko bs n0 t)).2.2.2.2.1 j)
    rw [hq]
    unfold aStep
    dsimp only
    by_cases hs : bad = true ∨ kt ≤ d
    · rw [if_pos hs]; exact ih2
    · rw [if_neg hs]
      by_cases h0 : aOk0 ft kt d m
      · rw [if_pos h0]
        intro j hj
        dsimp only at hj ⊢
        by_cases e : j < m
        · rw [pk_cpy_out (by omega)]; exact ih2 j e
        · rw [pk_cpy_in (by omega) (by omega)]; exact ht _ (by omega)
      · rw [if_neg h0]
        by_cases h1 : aOk1 ft kt ko bs d m
        · rw [if_pos h1]
          intro j hj
          dsimp only at hj ⊢
          by_cases e : j < m
          · rw [pk_cpy_out (by omega)]; exact ih2 j e
          · rw [pk_cpy_in (by omega) (by omega)]; exact ho _ (by omega)
        · rw [if_neg h1]; exact ih2
