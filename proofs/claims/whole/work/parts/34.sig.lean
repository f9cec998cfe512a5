/-! the signature: chains of blocks whose sums fall together -/
def cN (P : Nat → Bool) (nb i : Nat) : Int32 := go (nb - i) i
where go : Nat → Nat → Int32
  | 0, _ => -1
  | d + 1, i => if P i then nI i else go d (i + 1)
theorem cN_ge {P : Nat → Bool} {nb i : Nat} (h : nb ≤ i) : cN P nb i = -1 := by
  unfold cN
  rw [show nb - i = 0 by omega]
  rfl
theorem cN_t {P : Nat → Bool} {nb i : Nat} (h : i < nb) (hp : P i = true) : cN P nb i = nI i := by
  unfold cN
  rw [show nb - i = (nb - i - 1) + 1 by omega]
  show (if P i then nI i else _) = _
  rw [if_pos hp]
theorem cN_s {P : Nat → Bool} {nb i : Nat} (h : i < nb) (hp : P i = false) : cN P nb i = cN P nb (i + 1) := by
  unfold cN
  rw [show nb - i = (nb - i - 1) + 1 by omega]
  show (if P i then nI i else cN.go P (nb - i - 1) (i + 1)) = _
  rw [if_neg (by rw [hp]; decide), show nb - i - 1 = nb - (i + 1) by omega]
theorem cN_skip {P : Nat → Bool} {nb i : Nat} : ∀ d, i + d ≤ nb → (∀ b, i ≤ b → b < i + d → P b = false) → cN P nb i = cN P nb (i + d) := by
  intro d
  induction d with
  | zero => intro _ _; rfl
  | succ d ih =>
    intro h1 h2
    rw [ih (by omega) (fun b a c => h2 b a (by omega)), cN_s (by omega) (h2 (i + d) (by omega) (by omega))]
    rfl
theorem cN_cases (P : Nat → Bool) (nb : Nat) : ∀ i, (cN P nb i = -1 ∧ ∀ b, i ≤ b → b < nb → P b = false) ∨ ∃ b, i ≤ b ∧ b < nb ∧ P b = true ∧ (∀ a, i ≤ a → a < b → P a = false) ∧ cN P nb i = nI b := by
  have key : ∀ d i, nb ≤ i + d → (cN P nb i = -1 ∧ ∀ b, i ≤ b → b < nb → P b = false) ∨ ∃ b, i ≤ b ∧ b < nb ∧ P b = true ∧ (∀ a, i ≤ a → a < b → P a = false) ∧ cN P nb i = nI b := by
    intro d
    induction d with
    | zero => intro i h; exact Or.inl ⟨cN_ge (by omega), fun b h1 h2 => absurd h2 (by omega)⟩
    | succ d ih =>
      intro i h
      by_cases hi : i < nb
      · cases hp : P i with
        | true => exact Or.inr ⟨i, Nat.le_refl i, hi, hp, fun a h1 h2 => absurd h2 (by omega), cN_t hi hp⟩
        | false =>
          rw [cN_s hi hp]
          rcases ih (i + 1) (by omega) with ⟨h1, h2⟩ | ⟨b, h1, h2, h3, h4, h5⟩
          · refine Or.inl ⟨h1, fun b hb hn => ?_⟩
            by_cases e : b = i
            · rw [e]; exact hp
            · exact h2 b (by omega) hn
          · refine Or.inr ⟨b, by omega, h2, h3, fun a ha hb => ?_, h5⟩
            by_cases e : a = i
            · rw [e]; exact hp
            · exact h4 a (by omega) hb
      · exact Or.inl ⟨cN_ge (by omega), fun b h1 h2 => absurd h2 (by omega)⟩
  intro i
  exact key nb i (by omega)
theorem cN_none {P : Nat → Bool} {nb i : Nat} (h : ∀ b, i ≤ b → b < nb → P b = false) : cN P nb i = -1 := by
  rcases cN_cases P nb i with ⟨h1, _⟩ | ⟨b, h1, h2, h3, _⟩
  · exact h1
  · rw [h b h1 h2] at h3; cases h3
theorem cN_is {P : Nat → Bool} {nb i b : Nat} (h1 : i ≤ b) (h2 : b < nb) (h3 : P b = true) (h4 : ∀ a, i ≤ a → a < b → P a = false) : cN P nb i = nI b := by
  rw [cN_skip (P := P) (nb := nb) (i := i) (b - i) (by omega) (fun a x y => h4 a x (by omega)), show i + (b - i) = b by omega, cN_t h2 h3]
def chO (x : Int32) : Nat := (x * (-1640531535)).toBitVec.toNat / 2 ^ 24
theorem chO_lt (x : Int32) : chO x < 256 := by
  have h := (x * (-1640531535)).toBitVec.isLt
  unfold chO
  omega
theorem chO_eq (x : Int32) : ((x * (-1640531535)).toUInt32 >>> (Int32.toUInt32 24 &&& Int32.toUInt32 31)).toInt32 = nI (chO x) := by
  have h := chO_lt x
  apply Int32.toBitVec_inj.mp
  apply BitVec.eq_of_toNat_eq
  rw [pk_ushr _ 24 24 (by decide), pk_tn (by omega)]
  rfl
def pC (sm : Nat → Int32) (c : Nat) (b : Nat) : Bool := decide (chO (sm b) = c)
def pS (sm : Nat → Int32) (x : Int32) (b : Nat) : Bool := decide (sm b = x)
def hB (dg h : Nat → Int32) (wd b : Nat) : Bool := (List.range wd).all (fun k => decide ((dg (16 * b + k) &&& 255) = dByte h k))
def pD (sm dg h : Nat → Int32) (wd : Nat) (x : Int32) (b : Nat) : Bool := decide (sm b = x) && hB dg h wd b
abbrev kChain (nb : Nat) (sm hd nx : Nat → Int32) : Prop := (∀ c, c < 256 → hd c = cN (pC sm c) nb 0) ∧ ∀ b, b < nb → nx b = cN (pC sm (chO (sm b))) nb (b + 1)
theorem hB_iff {dg h : Nat → Int32} {wd b : Nat} : hB dg h wd b = true ↔ ∀ k, k < wd → (dg (16 * b + k) &&& 255) = dByte h k := by
  unfold hB
  rw [List.all_eq_true]
  constructor
  · intro z k hk; exact of_decide_eq_true (z k (List.mem_range.mpr hk))
  · intro z k hk; exact decide_eq_true (z k (List.mem_range.mp hk))
def fOk (sm dg h : Nat → Int32) (nb wd : Nat) (x fv : Int32) : Bool := decide (rIn fv nb) && pD sm dg h wd x fv.toNatClampNeg
def fnd (sm dg h : Nat → Int32) (nb wd : Nat) (x fv : Int32) : Int32 := if fOk sm dg h nb wd x fv then fv else cN (pD sm dg h wd x) nb 0
theorem nI_m1 {nb : Nat} : ¬ rIn (-1) nb := by
  intro h
  have : (-1 : Int32).toInt = -1 := by decide
  omega
theorem rIn_nI {b nb : Nat} (h : b < nb) (hn : nb ≤ 100000) : rIn (nI b) nb := by rw [rIn, nI_toInt (by omega)]; omega
theorem b2i_tt : b2i true = 1 := rfl
theorem b2i_ff : b2i false = 0 := rfl

theorem pS_of_pC {sm : Nat → Int32} {x : Int32} {b : Nat} (h : pC sm (chO x) b = false) : pS sm x b = false := decide_eq_false (fun z => of_decide_eq_false h (by rw [z]))
theorem pD_of_pS {sm dg h : Nat → Int32} {wd : Nat} {x : Int32} {b : Nat} (hs : pS sm x b = false) : pD sm dg h wd x b = false := by
  unfold pD
  rw [show decide (sm b = x) = false from hs, Bool.false_and]
theorem pS_skip {sm : Nat → Int32} {x : Int32} {nb j b : Nat} (hjb : j ≤ b) (hb : b < nb) (hmin : ∀ a, j ≤ a → a < b → pC sm (chO x) a = false) (h : pS sm x b = false) : cN (pS sm x) nb j = cN (pS sm x) nb (b + 1) := by
  have := cN_skip (P := pS sm x) (nb := nb) (i := j) (b + 1 - j) (by omega) (fun a h1 h2 => by
    by_cases e : a = b
    · rw [e]; exact h
    · exact pS_of_pC (hmin a h1 (by omega)))
  rw [show j + (b + 1 - j) = b + 1 by omega] at this
  exact this
theorem pD_skip {sm dg h : Nat → Int32} {wd : Nat} {x : Int32} {nb j b : Nat} (hjb : j ≤ b) (hb : b < nb) (hmin : ∀ a, j ≤ a → a < b → pS sm x a = false) (hd : ¬ hB dg h wd b = true) : cN (pD sm dg h wd x) nb j = cN (pD sm dg h wd x) nb (b + 1) := by
  have := cN_skip (P := pD sm dg h wd x) (nb := nb) (i := j) (b + 1 - j) (by omega) (fun a h1 h2 => by
    by_cases e : a = b
    · rw [e]; unfold pD; rw [Bool.eq_false_iff.mpr hd, Bool.and_false]
    · exact pD_of_pS (hmin a h1 (by omega)))
  rw [show j + (b + 1 - j) = b + 1 by omega] at this
  exact this
theorem hasS_eq {P : Nat → Bool} {nb : Nat} (h : nb ≤ 2000) : b2i (decide (rIn (cN P nb 0) nb)) = b2i (decide (¬ cN P nb 0 = -1)) := by
  rcases cN_cases P nb 0 with ⟨e, _⟩ | ⟨b, _, hb, _, _, e⟩
  · rw [e, b2i_f nI_m1, b2i_f (q := ¬ (-1 : Int32) = -1) (fun z => z rfl)]
  · rw [e, b2i_t (rIn_nI hb (by omega)), b2i_t (q := ¬ nI b = -1) (fun z => by have := congrArg Int32.toInt z; rw [nI_toInt (by omega), show (-1 : Int32).toInt = -1 by decide] at this; omega)]
set_option maxHeartbeats 4000000 in
set_option maxRecDepth 100000 in
theorem c_sig_blocks (l : Launch) (D : va_G) (cI cB : ClassId) (g : Nat) (qs : Nat) (qd : Nat) (qh : Nat) (qn : Nat) (bs : Nat) (wd : Nat) (nb : Nat)  : kC l yX2_blocks cX2_blocks 1 (some .int) 0 0 (0) (0) D cI cB [.ref g] [(g, .inr (2, [.int (nI bs), .int (nI wd), .int (nI nb), .ref qs, .ref qd, .ref qh, .ref qn]))] (fun (vV : Option Value) (uU : va_W) => vV = some (.int (nI nb)) ∧ uU = [(g, .inr (2, [.int (nI bs), .int (nI wd), .int (nI nb), .ref qs, .ref qd, .ref qh, .ref qn]))]) := by
  refine k_entry (lv0 := [(0, .ref g)]) (by decide) (Nat.le_of_ble_eq_true rfl) rfl ?_
  intro zp ze zs zm zb zt zc zA X hr hin
  refine k_aload_n X dX2_blocks_0 rfl 0 rfl ?_
  refine k_get (v := .int (nI nb)) X 0 2 2 rfl rfl (by decide) fl_X2_18 in_X2 rfl rfl dX2_blocks_1 ?_
  exact k_iret (u := [(g, .inr (2, [.int (nI bs), .int (nI wd), .int (nI nb), .ref qs, .ref qd, .ref qh, .ref qn]))]) X hr [0] (by decide) rfl rfl (⟨rfl, rfl⟩) (by (try dsimp only); omega) (by (try dsimp only); omega) dX2_blocks_4
set_option maxHeartbeats 4000000 in
set_option maxRecDepth 100000 in
theorem c_sig_blockSize (l : Launch) (D : va_G) (cI cB : ClassId) (g : Nat) (qs : Nat) (qd : Nat) (qh : Nat) (qn : Nat) (bs : Nat) (wd : Nat) (nb : Nat)  : kC l yX2_blockSize cX2_blockSize 1 (some .int) 0 0 (0) (0) D cI cB [.ref g] [(g, .inr (2, [.int (nI bs), .int (nI wd), .int (nI nb), .ref qs, .ref qd, .ref qh, .ref qn]))] (fun (vV : Option Value) (uU : va_W) => vV = some (.int (nI bs)) ∧ uU = [(g, .inr (2, [.int (nI bs), .int (nI wd), .int (nI nb), .ref qs, .ref qd, .ref qh, .ref qn]))]) := by
  refine k_entry (lv0 := [(0, .ref g)]) (by decide) (Nat.le_of_ble_eq_true rfl) rfl ?_
  intro zp ze zs zm zb zt zc zA X hr hin
  refine k_aload_n X dX2_blockSize_0 rfl 0 rfl ?_
  refine k_get (v := .int (nI bs)) X 0 2 0 rfl rfl (by decide) fl_X2_9 in_X2 rfl rfl dX2_blockSize_1 ?_
  exact k_iret (u := [(g, .inr (2, [.int (nI bs), .int (nI wd), .int (nI nb), .ref qs, .ref qd, .ref qh, .ref qn]))]) X hr [0] (by decide) rfl rfl (⟨rfl, rfl⟩) (by (try dsimp only); omega) (by (try dsimp only); omega) dX2_blockSize_4
set_option maxHeartbeats 4000000 in
set_option maxRecDepth 100000 in
theorem c_sig_width (l : Launch) (D : va_G) (cI cB : ClassId) (g : Nat) (qs : Nat) (qd : Nat) (qh : Nat) (qn : Nat) (bs : Nat) (wd : Nat) (nb : Nat)  : kC l yX2_width cX2_width 1 (some .int) 0 0 (0) (0) D cI cB [.ref g] [(g, .inr (2, [.int (nI bs), .int (nI wd), .int (nI nb), .ref qs, .ref qd, .ref qh, .ref qn]))] (fun (vV : Option Value) (uU : va_W) => vV = some (.int (nI wd)) ∧ uU = [(g, .inr (2, [.int (nI bs), .int (nI wd), .int (nI nb), .ref qs, .ref qd, .ref qh, .ref qn]))]) := by
  refine k_entry (lv0 := [(0, .ref g)]) (by decide) (Nat.le_of_ble_eq_true rfl) rfl ?_
  intro zp ze zs zm zb zt zc zA X hr hin
  refine k_aload_n X dX2_width_0 rfl 0 rfl ?_
  refine k_get (v := .int (nI wd)) X 0 2 1 rfl rfl (by decide) fl_X2_15 in_X2 rfl rfl dX2_width_1 ?_
  exact k_iret (u := [(g, .inr (2, [.int (nI bs), .int (nI wd), .int (nI nb), .ref qs, .ref qd, .ref qh, .ref qn]))]) X hr [0] (by decide) rfl rfl (⟨rfl, rfl⟩) (by (try dsimp only); omega) (by (try dsimp only); omega) dX2_width_4
set_option maxHeartbeats 4000000 in
set_option maxRecDepth 100000 in
theorem c_has (l : Launch) (D : va_G) (cI cB : ClassId) (g : Nat) (qs : Nat) (qd : Nat) (qh : Nat) (qn : Nat) (bs : Nat) (wd : Nat) (nb : Nat) (i : Int32) (hnb : nb ≤ 2000) : kC l yX2_has cX2_has 2 (some .boolean) 0 0 (0) (0) D cI cB [.ref g, .int i] [(g, .inr (2, [.int (nI bs), .int (nI wd), .int (nI nb), .ref qs, .ref qd, .ref qh, .ref qn]))] (fun (vV : Option Value) (uU : va_W) => vV = some (.int (b2i (decide (rIn i nb)))) ∧ uU = [(g, .inr (2, [.int (nI bs), .int (nI wd), .int (nI nb), .ref qs, .ref qd, .ref qh, .ref qn]))]) := by
  refine k_entry (lv0 := [(0, .ref g), (1, .int i)]) (by decide) (Nat.le_of_ble_eq_true rfl) rfl ?_
  intro zp ze zs zm zb zt zc zA X hr hin
  refine k_iload_n X dX2_has_0 rfl 1 rfl ?_
  refine k_if_lt (tgt := 16) (xi := i.toInt) X (rfl) dX2_has_1 (by decide) (fun c_1 => ?_) (fun c_1 => ?_)
  · refine k_iconst (v := 0) X dX2_has_16 (by decide) ?_
    exact k_zret (u := [(g, .inr (2, [.int (nI bs), .int (nI wd), .int (nI nb), .ref qs, .ref qd, .ref qh, .ref qn]))]) X (by first | rfl | exact b2i_nar _ | decide) hr [0] (by decide) rfl rfl (⟨by rw [b2i_f (by omega)], rfl⟩) (by (try dsimp only); omega) (by (try dsimp only); omega) dX2_has_17
  · refine k_iload_n X dX2_has_4 rfl 1 rfl ?_
    refine k_aload_n X dX2_has_5 rfl 0 rfl ?_
    refine k_get (v := .int (nI nb)) X 0 2 2 rfl rfl (by decide) fl_X2_18 in_X2 rfl rfl dX2_has_6 ?_
    refine k_icmp_ge (tgt := 16) (xi := i.toInt) (yi := ((nb : Nat) : Int)) X (rfl) (nI_toInt (by omega)) dX2_has_9 (by decide) (fun c_9 => ?_) (fun c_9 => ?_)
    · refine k_iconst (v := 0) X dX2_has_16 (by decide) ?_
      exact k_zret (u := [(g, .inr (2, [.int (nI bs), .int (nI wd), .int (nI nb), .ref qs, .ref qd, .ref qh, .ref qn]))]) X (by first | rfl | exact b2i_nar _ | decide) hr [0] (by decide) rfl rfl (⟨by rw [b2i_f (by omega)], rfl⟩) (by (try dsimp only); omega) (by (try dsimp only); omega) dX2_has_17
    · refine k_iconst (v := 1) X dX2_has_12 (by decide) ?_
      refine k_goto (tgt := 17) X dX2_has_13 (by decide) ?_
      exact k_zret (u := [(g, .inr (2, [.int (nI bs), .int (nI wd), .int (nI nb), .ref qs, .ref qd, .ref qh, .ref qn]))]) X (by first | rfl | exact b2i_nar _ | decide) hr [0] (by decide) rfl rfl (⟨by rw [b2i_t (by omega)], rfl⟩) (by (try dsimp only); omega) (by (try dsimp only); omega) dX2_has_17
set_option maxHeartbeats 4000000 in
set_option maxRecDepth 100000 in
theorem c_chainOf (l : Launch) (D : va_G) (cI cB : ClassId) (x : Int32)  : kC l yX2_chainOf cX2_chainOf 1 (some .int) 0 0 (0) (0) D cI cB [.int x] [] (fun (vV : Option Value) (uU : va_W) => vV = some (.int (nI (chO x))) ∧ uU = []) := by
  refine k_entry (lv0 := [(0, .int x)]) (by decide) (Nat.le_of_ble_eq_true rfl) rfl ?_
  intro zp ze zs zm zb zt zc zA X hr hin
  refine k_iload_n X dX2_chainOf_0 rfl 0 rfl ?_
  refine k_ldc X kc_X2_91 dX2_chainOf_1 ?_
  refine k_imul X dX2_chainOf_3 ?_
  refine k_bipush (v := 24) X dX2_chainOf_4 (by decide) ?_
  refine k_iushr (v := ((x * (-1640531535)).toUInt32 >>> (Int32.toUInt32 24 &&& Int32.toUInt32 31)).toInt32) X dX2_chainOf_6 rfl ?_
  refine k_as (y := nI (chO x)) (chO_eq x) ?_
  exact k_iret (u := []) X hr [] (by decide) rfl rfl (⟨rfl, rfl⟩) (by (try dsimp only); omega) (by (try dsimp only); omega) dX2_chainOf_7
set_option maxHeartbeats 4000000 in
set_option maxRecDepth 100000 in
theorem c_sumOf (l : Launch) (D : va_G) (cI cB : ClassId) (g : Nat) (qs : Nat) (qd : Nat) (qh : Nat) (qn : Nat) (bs : Nat) (wd : Nat) (nb : Nat) (N : Nat) (sm : Nat → Int32) (b : Nat) (hN : nb ≤ N) (hN2 : N ≤ 2000) (hb : b < nb) : kC l yX2_sumOf cX2_sumOf 2 (some .int) 1 21 (0) (0) D cI cB [.ref g, .int (nI b)] [(g, .inr (2, [.int (nI bs), .int (nI wd), .int (nI nb), .ref qs, .ref qd, .ref qh, .ref qn])), (qs, .inl (cI, N, .inl sm))] (fun (vV : Option Value) (uU : va_W) => vV = some (.int (sm b)) ∧ uU = [(g, .inr (2, [.int (nI bs), .int (nI wd), .int (nI nb), .ref qs, .ref qd, .ref qh, .ref qn])), (qs, .inl (cI, N, .inl sm))]) := by
  refine k_entry (lv0 := [(0, .ref g), (1, .int (nI b))]) (by decide) (Nat.le_of_ble_eq_true rfl) rfl ?_
  intro zp ze zs zm zb zt zc zA X hr hin
  refine k_aload_n X dX2_sumOf_0 rfl 0 rfl ?_
  refine k_iload_n X dX2_sumOf_1 rfl 1 rfl ?_
  refine k_callV (wc := [(g, .inr (2, [.int (nI bs), .int (nI wd), .int (nI nb), .ref qs, .ref qd, .ref qh, .ref qn]))]) (wr := [(qs, .inl (cI, N, .inl sm))]) (As := [.int (nI b)]) (n := 1) (st := []) (q0 := 0) X (c_has l D cI cB g qs qd qh qn bs wd nb (nI b) (by omega)) rfl rfl ml_X2_41 im_X2_has se_X2_has ini_X2 co_X2_has (by decide +kernel) rfl ⟨Nat.le_of_ble_eq_true rfl, Nat.le_of_ble_eq_true rfl⟩ (⟨by (try dsimp only); omega, by (try dsimp only); omega⟩) (Nat.le_of_ble_eq_true rfl) [0] [1] rfl rfl rfl (by decide) (by decide) (by decide) rfl dX2_sumOf_2 (fun v_2 u_2 hu_2 => ?_)
  obtain ⟨rfl, rfl⟩ := hu_2
  refine k_to (ws' := [(qs, .inl (cI, N, .inl sm)), (g, .inr (2, [.int (nI bs), .int (nI wd), .int (nI nb), .ref qs, .ref qd, .ref qh, .ref qn]))]) (st' := [.int (b2i (decide (rIn (nI b) nb)))]) rfl rfl ?_
  refine k_as (y := 1) (b2i_t (rIn_nI (by omega) (by omega))) ?_
  refine k_if_eq (tgt := 17) (xi := (1 : Int)) X (by decide) dX2_sumOf_5 (by decide) (fun c_5 => ?_) (fun c_5 => ?_)
  · exact absurd c_5 (by decide)
  · refine k_aload_n X dX2_sumOf_8 rfl 0 rfl ?_
    refine k_get (v := .ref qs) X 1 2 3 rfl rfl (by decide) fl_X2_21 in_X2 rfl rfl dX2_sumOf_9 ?_
    refine k_iload_n X dX2_sumOf_12 rfl 1 rfl ?_
    refine k_iald (v := sm b) X 0 rfl (vp_in_nI (n := b) (by omega) (by omega)) (by rw [nI_clamp (n := b) (by omega)]) dX2_sumOf_13 ?_
    refine k_goto (tgt := 18) X dX2_sumOf_14 (by decide) ?_
    exact k_iret (u := [(g, .inr (2, [.int (nI bs), .int (nI wd), .int (nI nb), .ref qs, .ref qd, .ref qh, .ref qn])), (qs, .inl (cI, N, .inl sm))]) X hr [1, 0] (by decide) rfl rfl (⟨rfl, rfl⟩) (by (try dsimp only); omega) (by (try dsimp only); omega) dX2_sumOf_18
set_option maxHeartbeats 4000000 in
set_option maxRecDepth 100000 in
theorem c_sumOf_f (l : Launch) (D : va_G) (cI cB : ClassId) (g : Nat) (qs : Nat) (qd : Nat) (qh : Nat) (qn : Nat) (bs : Nat) (wd : Nat) (nb : Nat) (i : Int32) (hnb : nb ≤ 2000) (hf : ¬ rIn i nb) : kC l yX2_sumOf cX2_sumOf 2 (some .int) 1 21 (0) (0) D cI cB [.ref g, .int i] [(g, .inr (2, [.int (nI bs), .int (nI wd), .int (nI nb), .ref qs, .ref qd, .ref qh, .ref qn]))] (fun (vV : Option Value) (uU : va_W) => vV = some (.int 0) ∧ uU = [(g, .inr (2, [.int (nI bs), .int (nI wd), .int (nI nb), .ref qs, .ref qd, .ref qh, .ref qn]))]) := by
  refine k_entry (lv0 := [(0, .ref g), (1, .int i)]) (by decide) (Nat.le_of_ble_eq_true rfl) rfl ?_
  intro zp ze zs zm zb zt zc zA X hr hin
  refine k_aload_n X dX2_sumOf_0 rfl 0 rfl ?_
  refine k_iload_n X dX2_sumOf_1 rfl 1 rfl ?_
  refine k_callV (wc := [(g, .inr (2, [.int (nI bs), .int (nI wd), .int (nI nb), .ref qs, .ref qd, .ref qh, .ref qn]))]) (wr := []) (As := [.int i]) (n := 1) (st := []) (q0 := 0) X (c_has l D cI cB g qs qd qh qn bs wd nb i (hnb)) rfl rfl ml_X2_41 im_X2_has se_X2_has ini_X2 co_X2_has (by decide +kernel) rfl ⟨Nat.le_of_ble_eq_true rfl, Nat.le_of_ble_eq_true rfl⟩ (⟨by (try dsimp only); omega, by (try dsimp only); omega⟩) (Nat.le_of_ble_eq_true rfl) [0] [] rfl rfl rfl (by decide) (by decide) (by decide) rfl dX2_sumOf_2 (fun v_2 u_2 hu_2 => ?_)
  obtain ⟨rfl, rfl⟩ := hu_2
  refine k_to (ws' := [(g, .inr (2, [.int (nI bs), .int (nI wd), .int (nI nb), .ref qs, .ref qd, .ref qh, .ref qn]))]) (st' := [.int (b2i (decide (rIn i nb)))]) rfl rfl ?_
  refine k_as (y := 0) (b2i_f hf) ?_
  refine k_if_eq (tgt := 17) (xi := (0 : Int)) X (by decide) dX2_sumOf_5 (by decide) (fun c_5 => ?_) (fun c_5 => ?_)
  · refine k_iconst (v := 0) X dX2_sumOf_17 (by decide) ?_
    exact k_iret (u := [(g, .inr (2, [.int (nI bs), .int (nI wd), .int (nI nb), .ref qs, .ref qd, .ref qh, .ref qn]))]) X hr [0] (by decide) rfl rfl (⟨rfl, rfl⟩) (by (try dsimp only); omega) (by (try dsimp only); omega) dX2_sumOf_18
  · exact absurd c_5 (by decide)
set_option maxHeartbeats 4000000 in
set_option maxRecDepth 100000 in
theorem c_digB (l : Launch) (D : va_G) (cI cB : ClassId) (g : Nat) (qs : Nat) (qd : Nat) (qh : Nat) (qn : Nat) (bs : Nat) (wd : Nat) (nb : Nat) (N : Nat) (dg : Nat → Int32) (b : Nat) (k : Nat) (hN : nb ≤ N) (hN2 : N ≤ 2000) (hb : b < nb) (hk : k < wd) (hwd : wd ≤ 16) : kC l yX2_digestByte cX2_digestByte 3 (some .int) 1 21 (0) (0) D cI cB [.ref g, .int (nI b), .int (nI k)] [(g, .inr (2, [.int (nI bs), .int (nI wd), .int (nI nb), .ref qs, .ref qd, .ref qh, .ref qn])), (qd, .inl (cB, (16 * N), .inl dg))] (fun (vV : Option Value) (uU : va_W) => vV = some (.int (dg (16 * b + k) &&& 255)) ∧ uU = [(g, .inr (2, [.int (nI bs), .int (nI wd), .int (nI nb), .ref qs, .ref qd, .ref qh, .ref qn])), (qd, .inl (cB, (16 * N), .inl dg))]) := by
  refine k_entry (lv0 := [(0, .ref g), (1, .int (nI b)), (2, .int (nI k))]) (by decide) (Nat.le_of_ble_eq_true rfl) rfl ?_
  intro zp ze zs zm zb zt zc zA X hr hin
  refine k_aload_n X dX2_digestByte_0 rfl 0 rfl ?_
  refine k_iload_n X dX2_digestByte_1 rfl 1 rfl ?_
  refine k_callV (wc := [(g, .inr (2, [.int (nI bs), .int (nI wd), .int (nI nb), .ref qs, .ref qd, .ref qh, .ref qn]))]) (wr := [(qd, .inl (cB, (16 * N), .inl dg))]) (As := [.int (nI b)]) (n := 1) (st := []) (q0 := 0) X (c_has l D cI cB g qs qd qh qn bs wd nb (nI b) (by omega)) rfl rfl ml_X2_41 im_X2_has se_X2_has ini_X2 co_X2_has (by decide +kernel) rfl ⟨Nat.le_of_ble_eq_true rfl, Nat.le_of_ble_eq_true rfl⟩ (⟨by (try dsimp only); omega, by (try dsimp only); omega⟩) (Nat.le_of_ble_eq_true rfl) [0] [1] rfl rfl rfl (by decide) (by decide) (by decide) rfl dX2_digestByte_2 (fun v_2 u_2 hu_2 => ?_)
  obtain ⟨rfl, rfl⟩ := hu_2
  refine k_to (ws' := [(qd, .inl (cB, (16 * N), .inl dg)), (g, .inr (2, [.int (nI bs), .int (nI wd), .int (nI nb), .ref qs, .ref qd, .ref qh, .ref qn]))]) (st' := [.int (b2i (decide (rIn (nI b) nb)))]) rfl rfl ?_
  refine k_as (y := 1) (b2i_t (rIn_nI (by omega) (by omega))) ?_
  refine k_if_eq (tgt := 38) (xi := (1 : Int)) X (by decide) dX2_digestByte_5 (by decide) (fun c_5 => ?_) (fun c_5 => ?_)
  · exact absurd c_5 (by decide)
  · refine k_iload_n X dX2_digestByte_8 rfl 2 rfl ?_
    refine k_if_lt (tgt := 38) (xi := ((k : Nat) : Int)) X (nI_toInt (by omega)) dX2_digestByte_9 (by decide) (fun c_9 => ?_) (fun c_9 => ?_)
    · exact absurd c_9 (by omega)
    · refine k_iload_n X dX2_digestByte_12 rfl 2 rfl ?_
      refine k_aload_n X dX2_digestByte_13 rfl 0 rfl ?_
      refine k_get (v := .int (nI wd)) X 1 2 1 rfl rfl (by decide) fl_X2_15 in_X2 rfl rfl dX2_digestByte_14 ?_
      refine k_icmp_ge (tgt := 38) (xi := ((k : Nat) : Int)) (yi := ((wd : Nat) : Int)) X (nI_toInt (by omega)) (nI_toInt (by omega)) dX2_digestByte_17 (by decide) (fun c_17 => ?_) (fun c_17 => ?_)
      · exact absurd c_17 (by omega)
      · refine k_aload_n X dX2_digestByte_20 rfl 0 rfl ?_
        refine k_get (v := .ref qd) X 1 2 4 rfl rfl (by decide) fl_X2_25 in_X2 rfl rfl dX2_digestByte_21 ?_
        refine k_iload_n X dX2_digestByte_24 rfl 1 rfl ?_
        refine k_bipush (v := 16) X dX2_digestByte_25 (by decide) ?_
        refine k_imul X dX2_digestByte_27 ?_
        refine k_as (y := nI (16 * b)) (by rw [Nat.mul_comm]; exact n_mul b 16) ?_
        refine k_iload_n X dX2_digestByte_28 rfl 2 rfl ?_
        refine k_iadd X dX2_digestByte_29 ?_
        refine k_as (y := nI (16 * b + k)) (nI_add _ _) ?_
        refine k_bald (v := dg (16 * b + k)) X 0 rfl (vp_in_nI (n := 16 * b + k) (by omega) (by omega)) (by rw [nI_clamp (n := 16 * b + k) (by omega)]) dX2_digestByte_30 ?_
        refine k_sipush (v := 255) X dX2_digestByte_31 (by decide) ?_
        refine k_iand X dX2_digestByte_34 ?_
        refine k_goto (tgt := 39) X dX2_digestByte_35 (by decide) ?_
        exact k_iret (u := [(g, .inr (2, [.int (nI bs), .int (nI wd), .int (nI nb), .ref qs, .ref qd, .ref qh, .ref qn])), (qd, .inl (cB, (16 * N), .inl dg))]) X hr [1, 0] (by decide) rfl rfl (⟨rfl, rfl⟩) (by (try dsimp only); omega) (by (try dsimp only); omega) dX2_digestByte_39
set_option maxHeartbeats 4000000 in
set_option maxRecDepth 100000 in
theorem c_digB_f (l : Launch) (D : va_G) (cI cB : ClassId) (g : Nat) (qs : Nat) (qd : Nat) (qh : Nat) (qn : Nat) (bs : Nat) (wd : Nat) (nb : Nat) (i : Int32) (j : Int32) (hnb : nb ≤ 2000) (hwd : wd ≤ 16) (hf : ¬ (rIn i nb ∧ rIn j wd)) : kC l yX2_digestByte cX2_digestByte 3 (some .int) 1 21 (0) (0) D cI cB [.ref g, .int i, .int j] [(g, .inr (2, [.int (nI bs), .int (nI wd), .int (nI nb), .ref qs, .ref qd, .ref qh, .ref qn]))] (fun (vV : Option Value) (uU : va_W) => vV = some (.int (-1)) ∧ uU = [(g, .inr (2, [.int (nI bs), .int (nI wd), .int (nI nb), .ref qs, .ref qd, .ref qh, .ref qn]))]) := by
  refine k_entry (lv0 := [(0, .ref g), (1, .int i), (2, .int j)]) (by decide) (Nat.le_of_ble_eq_true rfl) rfl ?_
  intro zp ze zs zm zb zt zc zA X hr hin
  refine k_aload_n X dX2_digestByte_0 rfl 0 rfl ?_
  refine k_iload_n X dX2_digestByte_1 rfl 1 rfl ?_
  refine k_callV (wc := [(g, .inr (2, [.int (nI bs), .int (nI wd), .int (nI nb), .ref qs, .ref qd, .ref qh, .ref qn]))]) (wr := []) (As := [.int i]) (n := 1) (st := []) (q0 := 0) X (c_has l D cI cB g qs qd qh qn bs wd nb i (hnb)) rfl rfl ml_X2_41 im_X2_has se_X2_has ini_X2 co_X2_has (by decide +kernel) rfl ⟨Nat.le_of_ble_eq_true rfl, Nat.le_of_ble_eq_true rfl⟩ (⟨by (try dsimp only); omega, by (try dsimp only); omega⟩) (Nat.le_of_ble_eq_true rfl) [0] [] rfl rfl rfl (by decide) (by decide) (by decide) rfl dX2_digestByte_2 (fun v_2 u_2 hu_2 => ?_)
  obtain ⟨rfl, rfl⟩ := hu_2
  refine k_to (ws' := [(g, .inr (2, [.int (nI bs), .int (nI wd), .int (nI nb), .ref qs, .ref qd, .ref qh, .ref qn]))]) (st' := [.int (b2i (decide (rIn i nb)))]) rfl rfl ?_
  by_cases hi : rIn i nb
  · refine k_as (y := 1) (b2i_t hi) ?_
    refine k_if_eq (tgt := 38) (xi := (1 : Int)) X (by decide) dX2_digestByte_5 (by decide) (fun c_5 => ?_) (fun c_5 => ?_)
    · exact absurd c_5 (by decide)
    · refine k_iload_n X dX2_digestByte_8 rfl 2 rfl ?_
      refine k_if_lt (tgt := 38) (xi := j.toInt) X (rfl) dX2_digestByte_9 (by decide) (fun c_9 => ?_) (fun c_9 => ?_)
      · refine k_iconst (v := -1) X dX2_digestByte_38 (by decide) ?_
        exact k_iret (u := [(g, .inr (2, [.int (nI bs), .int (nI wd), .int (nI nb), .ref qs, .ref qd, .ref qh, .ref qn]))]) X hr [0] (by decide) rfl rfl (⟨rfl, rfl⟩) (by (try dsimp only); omega) (by (try dsimp only); omega) dX2_digestByte_39
      · refine k_iload_n X dX2_digestByte_12 rfl 2 rfl ?_
        refine k_aload_n X dX2_digestByte_13 rfl 0 rfl ?_
        refine k_get (v := .int (nI wd)) X 0 2 1 rfl rfl (by decide) fl_X2_15 in_X2 rfl rfl dX2_digestByte_14 ?_
        refine k_icmp_ge (tgt := 38) (xi := j.toInt) (yi := ((wd : Nat) : Int)) X (rfl) (nI_toInt (by omega)) dX2_digestByte_17 (by decide) (fun c_17 => ?_) (fun c_17 => ?_)
        · refine k_iconst (v := -1) X dX2_digestByte_38 (by decide) ?_
          exact k_iret (u := [(g, .inr (2, [.int (nI bs), .int (nI wd), .int (nI nb), .ref qs, .ref qd, .ref qh, .ref qn]))]) X hr [0] (by decide) rfl rfl (⟨rfl, rfl⟩) (by (try dsimp only); omega) (by (try dsimp only); omega) dX2_digestByte_39
        · exact absurd c_17 (by omega)
  · refine k_as (y := 0) (b2i_f hi) ?_
    refine k_if_eq (tgt := 38) (xi := (0 : Int)) X (by decide) dX2_digestByte_5 (by decide) (fun c_5 => ?_) (fun c_5 => ?_)
    · refine k_iconst (v := -1) X dX2_digestByte_38 (by decide) ?_
      exact k_iret (u := [(g, .inr (2, [.int (nI bs), .int (nI wd), .int (nI nb), .ref qs, .ref qd, .ref qh, .ref qn]))]) X hr [0] (by decide) rfl rfl (⟨rfl, rfl⟩) (by (try dsimp only); omega) (by (try dsimp only); omega) dX2_digestByte_39
    · exact absurd c_5 (by decide)
set_option maxHeartbeats 4000000 in
set_option maxRecDepth 100000 in
theorem c_hasDigest (l : Launch) (D : va_G) (cI cB : ClassId) (g : Nat) (qs : Nat) (qd : Nat) (qh : Nat) (qn : Nat) (bs : Nat) (wd : Nat) (nb : Nat) (N : Nat) (dg : Nat → Int32) (b : Nat) (o : Nat) (aw : Nat) (ah : Nat) (h : Nat → Int32) (hN : nb ≤ N) (hN2 : N ≤ 2000) (hb : b < nb) (hwd : wd ≤ 16) : kC l yX2_hasDigest cX2_hasDigest 4 (some .boolean) 2 43 (0) (0) D cI cB [.ref g, .int (nI b), .ref o] [(g, .inr (2, [.int (nI bs), .int (nI wd), .int (nI nb), .ref qs, .ref qd, .ref qh, .ref qn])), (qd, .inl (cB, (16 * N), .inl dg)), (o, .inr (0, [.ref aw, .ref ah])), (ah, .inl (cI, 4, .inl h))] (fun (vV : Option Value) (uU : va_W) => vV = some (.int (b2i (hB dg h wd b))) ∧ uU = [(g, .inr (2, [.int (nI bs), .int (nI wd), .int (nI nb), .ref qs, .ref qd, .ref qh, .ref qn])), (qd, .inl (cB, (16 * N), .inl dg)), (o, .inr (0, [.ref aw, .ref ah])), (ah, .inl (cI, 4, .inl h))]) := by
  refine k_entry (lv0 := [(0, .ref g), (1, .int (nI b)), (2, .ref o)]) (by decide) (Nat.le_of_ble_eq_true rfl) rfl ?_
  intro zp ze zs zm zb zt zc zA X hr hin
  refine k_iconst (v := 0) X dX2_hasDigest_0 (by decide) ?_
  refine k_istore_n (lv' := [(3, .int 0), (0, .ref g), (1, .int (nI b)), (2, .ref o)]) X dX2_hasDigest_1 rfl (by decide) rfl ?_
  refine k_lv (lv' := [(0, .ref g), (1, .int (nI b)), (2, .ref o), (3, .int (nI 0))]) [1, 2, 3, 0] rfl ?_
  refine k_wide (k := 0) (n := 0) (by (try dsimp only); omega) (by (try dsimp only); omega) ?_
  refine k_loop1 (pc1 := 2) (cl := fun (k : Nat) => 0) (sl := fun (k : Nat) => 0) (wsf := fun (k : Nat) => [(g, .inr (2, [.int (nI bs), .int (nI wd), .int (nI nb), .ref qs, .ref qd, .ref qh, .ref qn])), (qd, .inl (cB, (16 * N), .inl dg)), (o, .inr (0, [.ref aw, .ref ah])), (ah, .inl (cI, 4, .inl h))]) (lvf := fun (k : Nat) => [(0, .ref g), (1, .int (nI b)), (2, .ref o), (3, .int (nI k))]) (stf := fun (k : Nat) => []) (I := fun (k : Nat) => k ≤ wd ∧ ∀ j, j < k → (dg (16 * b + j) &&& 255) = dByte h j) (mu := fun (k : Nat) => wd - k) ?_ 0 (⟨Nat.zero_le _, fun j h => absurd h (Nat.not_lt_zero j)⟩)
  intro k hI ih
  try dsimp only at hI ih
  try dsimp only
  have hi := hI.1
  refine k_iload_n X dX2_hasDigest_2 rfl 3 rfl ?_
  refine k_aload_n X dX2_hasDigest_3 rfl 0 rfl ?_
  refine k_get (v := .int (nI wd)) X 0 2 1 rfl rfl (by decide) fl_X2_15 in_X2 rfl rfl dX2_hasDigest_4 ?_
  refine k_icmp_ge (tgt := 32) (xi := ((k : Nat) : Int)) (yi := ((wd : Nat) : Int)) X (nI_toInt (by omega)) (nI_toInt (by omega)) dX2_hasDigest_7 (by decide) (fun c_7 => ?_) (fun c_7 => ?_)
  · refine k_iconst (v := 1) X dX2_hasDigest_32 (by decide) ?_
    exact k_zret (u := [(g, .inr (2, [.int (nI bs), .int (nI wd), .int (nI nb), .ref qs, .ref qd, .ref qh, .ref qn])), (qd, .inl (cB, (16 * N), .inl dg)), (o, .inr (0, [.ref aw, .ref ah])), (ah, .inl (cI, 4, .inl h))]) X (by first | rfl | exact b2i_nar _ | decide) hr [0, 1, 2, 3] (by decide) rfl rfl (⟨by rw [show hB dg h wd b = true from hB_iff.mpr (fun j hj => hI.2 j (by omega))]; rfl, rfl⟩) (by (try dsimp only); omega) (by (try dsimp only); omega) dX2_hasDigest_33
  · refine k_aload_n X dX2_hasDigest_10 rfl 0 rfl ?_
    refine k_iload_n X dX2_hasDigest_11 rfl 1 rfl ?_
    refine k_iload_n X dX2_hasDigest_12 rfl 3 rfl ?_
    refine k_callV (wc := [(g, .inr (2, [.int (nI bs), .int (nI wd), .int (nI nb), .ref qs, .ref qd, .ref qh, .ref qn])), (qd, .inl (cB, (16 * N), .inl dg))]) (wr := [(o, .inr (0, [.ref aw, .ref ah])), (ah, .inl (cI, 4, .inl h))]) (As := [.int (nI b), .int (nI k)]) (n := 2) (st := []) (q0 := 0) X (c_digB l D cI cB g qs qd qh qn bs wd nb N dg b k (hN) (hN2) (hb) (by omega) (hwd)) rfl rfl ml_X2_81 im_X2_digestByte se_X2_digestByte ini_X2 co_X2_digestByte (by decide +kernel) rfl ⟨Nat.le_of_ble_eq_true rfl, Nat.le_of_ble_eq_true rfl⟩ (⟨by (try dsimp only); omega, by (try dsimp only); omega⟩) (Nat.le_of_ble_eq_true rfl) [0, 1] [2, 3] rfl rfl rfl (by decide) (by decide) (by decide) rfl dX2_hasDigest_13 (fun v_13 u_13 hu_13 => ?_)
    obtain ⟨rfl, rfl⟩ := hu_13
    refine k_to (ws' := [(o, .inr (0, [.ref aw, .ref ah])), (ah, .inl (cI, 4, .inl h)), (g, .inr (2, [.int (nI bs), .int (nI wd), .int (nI nb), .ref qs, .ref qd, .ref qh, .ref qn])), (qd, .inl (cB, (16 * N), .inl dg))]) (st' := [.int (dg (16 * b + k) &&& 255)]) rfl rfl ?_
    refine k_aload_n X dX2_hasDigest_16 rfl 2 rfl ?_
    refine k_iload_n X dX2_hasDigest_17 rfl 3 rfl ?_
    refine k_callV (wc := [(o, .inr (0, [.ref aw, .ref ah])), (ah, .inl (cI, 4, .inl h))]) (wr := [(g, .inr (2, [.int (nI bs), .int (nI wd), .int (nI nb), .ref qs, .ref qd, .ref qh, .ref qn])), (qd, .inl (cB, (16 * N), .inl dg))]) (As := [.int (nI k)]) (n := 1) (st := [.int (dg (16 * b + k) &&& 255)]) (q0 := 0) X (c_digestByte l D cI cB o aw ah h k (by omega)) rfl rfl ml_X2_64 im_X0_digestByte se_X0_digestByte ini_X0 co_X0_digestByte (by decide +kernel) rfl ⟨Nat.le_of_ble_eq_true rfl, Nat.le_of_ble_eq_true rfl⟩ (⟨by (try dsimp only); omega, by (try dsimp only); omega⟩) (Nat.le_of_ble_eq_true rfl) [0, 1] [2, 3] rfl rfl rfl (by decide) (by decide) (by decide) rfl dX2_hasDigest_18 (fun v_18 u_18 hu_18 => ?_)
    obtain ⟨rfl, rfl⟩ := hu_18
    refine k_to (ws' := [(g, .inr (2, [.int (nI bs), .int (nI wd), .int (nI nb), .ref qs, .ref qd, .ref qh, .ref qn])), (qd, .inl (cB, (16 * N), .inl dg)), (o, .inr (0, [.ref aw, .ref ah])), (ah, .inl (cI, 4, .inl h))]) (st' := [.int (dByte h k), .int (dg (16 * b + k) &&& 255)]) rfl rfl ?_
    refine k_icmp_eq (tgt := 26) (xi := (dg (16 * b + k) &&& 255).toInt) (yi := (dByte h k).toInt) X (rfl) (rfl) dX2_hasDigest_21 (by decide) (fun c_21 => ?_) (fun c_21 => ?_)
    · refine k_iinc (v := nI (k + 1)) (lv' := [(3, .int (nI (k + 1))), (0, .ref g), (1, .int (nI b)), (2, .ref o)]) X dX2_hasDigest_26 3 rfl (nI_1 _) (by decide) rfl ?_
      refine k_goto (tgt := 2) X dX2_hasDigest_29 (by decide) ?_
      refine k_lv (lv' := [(0, .ref g), (1, .int (nI b)), (2, .ref o), (3, .int (nI (k + 1)))]) [1, 2, 3, 0] rfl ?_
      refine k_sub (ws' := [(g, .inr (2, [.int (nI bs), .int (nI wd), .int (nI nb), .ref qs, .ref qd, .ref qh, .ref qn])), (qd, .inl (cB, (16 * N), .inl dg)), (o, .inr (0, [.ref aw, .ref ah])), (ah, .inl (cI, 4, .inl h))]) [0, 1, 2, 3] (by decide) rfl rfl ?_
      refine k_wide (k := 0) (n := 0) (by (try dsimp only); omega) (by (try dsimp only); omega) ?_
      exact ih (k + 1) (⟨by omega, lt_s hI.2 (Int32.toInt_inj.mp c_21)⟩) (by omega)
    · refine k_iconst (v := 0) X dX2_hasDigest_24 (by decide) ?_
      exact k_zret (u := [(g, .inr (2, [.int (nI bs), .int (nI wd), .int (nI nb), .ref qs, .ref qd, .ref qh, .ref qn])), (qd, .inl (cB, (16 * N), .inl dg)), (o, .inr (0, [.ref aw, .ref ah])), (ah, .inl (cI, 4, .inl h))]) X (by first | rfl | exact b2i_nar _ | decide) hr [0, 1, 2, 3] (by decide) rfl rfl (⟨by rw [show hB dg h wd b = false from Bool.eq_false_iff.mpr (fun z => absurd (congrArg Int32.toInt (hB_iff.mp z k (by omega))) c_21)]; rfl, rfl⟩) (by (try dsimp only); omega) (by (try dsimp only); omega) dX2_hasDigest_25
set_option maxHeartbeats 4000000 in
set_option maxRecDepth 100000 in
theorem c_firstInChain (l : Launch) (D : va_G) (cI cB : ClassId) (g : Nat) (qs : Nat) (qd : Nat) (qh : Nat) (qn : Nat) (bs : Nat) (wd : Nat) (nb : Nat) (N : Nat) (sm : Nat → Int32) (hd : Nat → Int32) (nx : Nat → Int32) (st : Int32) (x : Int32) (i : Nat) (hN : nb ≤ N) (hN2 : N ≤ 2000) (hch : kChain nb sm hd nx) (hi : i ≤ nb) (hst : st = cN (pC sm (chO x)) nb i) : kC l yX2_firstInChain cX2_firstInChain 5 (some .int) 1 21 (0) (0) D cI cB [.ref g, .int st, .int x] [(g, .inr (2, [.int (nI bs), .int (nI wd), .int (nI nb), .ref qs, .ref qd, .ref qh, .ref qn])), (qs, .inl (cI, N, .inl sm)), (qn, .inl (cI, N, .inl nx))] (fun (vV : Option Value) (uU : va_W) => vV = some (.int (cN (pS sm x) nb i)) ∧ uU = [(g, .inr (2, [.int (nI bs), .int (nI wd), .int (nI nb), .ref qs, .ref qd, .ref qh, .ref qn])), (qs, .inl (cI, N, .inl sm)), (qn, .inl (cI, N, .inl nx))]) := by
  refine k_entry (lv0 := [(0, .ref g), (1, .int st), (2, .int x)]) (by decide) (Nat.le_of_ble_eq_true rfl) rfl ?_
  intro zp ze zs zm zb zt zc zA X hr hin
  refine k_iload_n X dX2_firstInChain_0 rfl 1 rfl ?_
  refine k_istore_n (lv' := [(3, .int st), (0, .ref g), (1, .int st), (2, .int x)]) X dX2_firstInChain_1 rfl (by decide) rfl ?_
  refine k_iconst (v := 0) X dX2_firstInChain_2 (by decide) ?_
  refine k_istore (lv' := [(4, .int 0), (3, .int st), (0, .ref g), (1, .int st), (2, .int x)]) X dX2_firstInChain_3 (by decide) rfl ?_
  refine k_lv (lv' := [(0, .ref g), (2, .int x), (3, .int st), (4, .int (nI 0))]) [2, 4, 1, 0] rfl ?_
  refine k_wide (k := 0) (n := 0) (by (try dsimp only); omega) (by (try dsimp only); omega) ?_
  refine k_loop3 (pc1 := 5) (cl := fun (t : Nat) (j : Nat) (v : Int32) => 0) (sl := fun (t : Nat) (j : Nat) (v : Int32) => 0) (wsf := fun (t : Nat) (j : Nat) (v : Int32) => [(g, .inr (2, [.int (nI bs), .int (nI wd), .int (nI nb), .ref qs, .ref qd, .ref qh, .ref qn])), (qs, .inl (cI, N, .inl sm)), (qn, .inl (cI, N, .inl nx))]) (lvf := fun (t : Nat) (j : Nat) (v : Int32) => [(0, .ref g), (2, .int x), (3, .int v), (4, .int (nI t))]) (stf := fun (t : Nat) (j : Nat) (v : Int32) => []) (I := fun (t : Nat) (j : Nat) (v : Int32) => t ≤ j ∧ j ≤ nb ∧ v = cN (pC sm (chO x)) nb j ∧ cN (pS sm x) nb i = cN (pS sm x) nb j) (mu := fun (t : Nat) (j : Nat) (v : Int32) => nb - j) ?_ 0 i st (⟨Nat.zero_le _, hi, hst, rfl⟩)
  intro t j v hI ih
  try dsimp only at hI ih
  try dsimp only
  have h0 := hI.1; have h1 := hI.2.1
  refine k_iload X dX2_firstInChain_5 3 rfl ?_
  refine k_aload_n X dX2_firstInChain_7 rfl 0 rfl ?_
  refine k_get (v := .int (nI nb)) X 0 2 2 rfl rfl (by decide) fl_X2_18 in_X2 rfl rfl dX2_firstInChain_8 ?_
  refine k_icmp_ge (tgt := 47) (xi := ((t : Nat) : Int)) (yi := ((nb : Nat) : Int)) X (nI_toInt (by omega)) (nI_toInt (by omega)) dX2_firstInChain_11 (by decide) (fun c_11 => ?_) (fun c_11 => ?_)
  · refine k_iconst (v := -1) X dX2_firstInChain_47 (by decide) ?_
    exact k_iret (u := [(g, .inr (2, [.int (nI bs), .int (nI wd), .int (nI nb), .ref qs, .ref qd, .ref qh, .ref qn])), (qs, .inl (cI, N, .inl sm)), (qn, .inl (cI, N, .inl nx))]) X hr [0, 1, 2] (by decide) rfl rfl (⟨by rw [hI.2.2.2, cN_ge (by omega)], rfl⟩) (by (try dsimp only); omega) (by (try dsimp only); omega) dX2_firstInChain_48
  · refine k_aload_n X dX2_firstInChain_14 rfl 0 rfl ?_
    refine k_iload_n X dX2_firstInChain_15 rfl 2 rfl ?_
    rcases cN_cases (pC sm (chO x)) nb j with ⟨e1, hno⟩ | ⟨b, hjb, hbn, hPb, hmin, e1⟩
    · obtain rfl : v = -1 := hI.2.2.1.trans e1
      refine k_callV (wc := [(g, .inr (2, [.int (nI bs), .int (nI wd), .int (nI nb), .ref qs, .ref qd, .ref qh, .ref qn]))]) (wr := [(qs, .inl (cI, N, .inl sm)), (qn, .inl (cI, N, .inl nx))]) (As := [.int (-1)]) (n := 1) (st := []) (q0 := 0) X (c_has l D cI cB g qs qd qh qn bs wd nb (-1) (by omega)) rfl rfl ml_X2_41 im_X2_has se_X2_has ini_X2 co_X2_has (by decide +kernel) rfl ⟨Nat.le_of_ble_eq_true rfl, Nat.le_of_ble_eq_true rfl⟩ (⟨by (try dsimp only); omega, by (try dsimp only); omega⟩) (Nat.le_of_ble_eq_true rfl) [0] [1, 2] rfl rfl rfl (by decide) (by decide) (by decide) rfl dX2_firstInChain_16 (fun v_16 u_16 hu_16 => ?_)
      obtain ⟨rfl, rfl⟩ := hu_16
      refine k_to (ws' := [(qs, .inl (cI, N, .inl sm)), (qn, .inl (cI, N, .inl nx)), (g, .inr (2, [.int (nI bs), .int (nI wd), .int (nI nb), .ref qs, .ref qd, .ref qh, .ref qn]))]) (st' := [.int (b2i (decide (rIn (-1) nb)))]) rfl rfl ?_
      refine k_as (y := 0) (b2i_f nI_m1) ?_
      refine k_if_eq (tgt := 47) (xi := (0 : Int)) X (by decide) dX2_firstInChain_19 (by decide) (fun c_19 => ?_) (fun c_19 => ?_)
      · refine k_iconst (v := -1) X dX2_firstInChain_47 (by decide) ?_
        exact k_iret (u := [(g, .inr (2, [.int (nI bs), .int (nI wd), .int (nI nb), .ref qs, .ref qd, .ref qh, .ref qn])), (qs, .inl (cI, N, .inl sm)), (qn, .inl (cI, N, .inl nx))]) X hr [2, 0, 1] (by decide) rfl rfl (⟨by rw [hI.2.2.2, cN_none (fun b h1 h2 => pS_of_pC (hno b h1 h2))], rfl⟩) (by (try dsimp only); omega) (by (try dsimp only); omega) dX2_firstInChain_48
      · exact absurd c_19 (by decide)
    · obtain rfl : v = nI b := hI.2.2.1.trans e1
      refine k_callV (wc := [(g, .inr (2, [.int (nI bs), .int (nI wd), .int (nI nb), .ref qs, .ref qd, .ref qh, .ref qn]))]) (wr := [(qs, .inl (cI, N, .inl sm)), (qn, .inl (cI, N, .inl nx))]) (As := [.int (nI b)]) (n := 1) (st := []) (q0 := 0) X (c_has l D cI cB g qs qd qh qn bs wd nb (nI b) (by omega)) rfl rfl ml_X2_41 im_X2_has se_X2_has ini_X2 co_X2_has (by decide +kernel) rfl ⟨Nat.le_of_ble_eq_true rfl, Nat.le_of_ble_eq_true rfl⟩ (⟨by (try dsimp only); omega, by (try dsimp only); omega⟩) (Nat.le_of_ble_eq_true rfl) [0] [1, 2] rfl rfl rfl (by decide) (by decide) (by decide) rfl dX2_firstInChain_16 (fun v_16 u_16 hu_16 => ?_)
      obtain ⟨rfl, rfl⟩ := hu_16
      refine k_to (ws' := [(qs, .inl (cI, N, .inl sm)), (qn, .inl (cI, N, .inl nx)), (g, .inr (2, [.int (nI bs), .int (nI wd), .int (nI nb), .ref qs, .ref qd, .ref qh, .ref qn]))]) (st' := [.int (b2i (decide (rIn (nI b) nb)))]) rfl rfl ?_
      refine k_as (y := 1) (b2i_t (rIn_nI (by omega) (by omega))) ?_
      refine k_if_eq (tgt := 47) (xi := (1 : Int)) X (by decide) dX2_firstInChain_19 (by decide) (fun c_19 => ?_) (fun c_19 => ?_)
      · exact absurd c_19 (by decide)
      · refine k_aload_n X dX2_firstInChain_22 rfl 0 rfl ?_
        refine k_get (v := .ref qs) X 2 2 3 rfl rfl (by decide) fl_X2_21 in_X2 rfl rfl dX2_firstInChain_23 ?_
        refine k_iload_n X dX2_firstInChain_26 rfl 2 rfl ?_
        refine k_iald (v := sm b) X 0 rfl (vp_in_nI (n := b) (by omega) (by omega)) (by rw [nI_clamp (n := b) (by omega)]) dX2_firstInChain_27 ?_
        refine k_iload_n X dX2_firstInChain_28 rfl 1 rfl ?_
        refine k_icmp_ne (tgt := 34) (xi := (sm b).toInt) (yi := x.toInt) X (rfl) (rfl) dX2_firstInChain_29 (by decide) (fun c_29 => ?_) (fun c_29 => ?_)
        · refine k_aload_n X dX2_firstInChain_34 rfl 0 rfl ?_
          refine k_get (v := .ref qn) X 2 2 6 rfl rfl (by decide) fl_X2_29 in_X2 rfl rfl dX2_firstInChain_35 ?_
          refine k_iload_n X dX2_firstInChain_38 rfl 2 rfl ?_
          refine k_iald (v := nx b) X 1 rfl (vp_in_nI (n := b) (by omega) (by omega)) (by rw [nI_clamp (n := b) (by omega)]) dX2_firstInChain_39 ?_
          refine k_istore_n (lv' := [(3, .int (nx b)), (0, .ref g), (2, .int x), (4, .int (nI t))]) X dX2_firstInChain_40 rfl (by decide) rfl ?_
          refine k_iinc (v := nI (t + 1)) (lv' := [(4, .int (nI (t + 1))), (3, .int (nx b)), (0, .ref g), (2, .int x)]) X dX2_firstInChain_41 3 rfl (nI_1 _) (by decide) rfl ?_
          refine k_goto (tgt := 5) X dX2_firstInChain_44 (by decide) ?_
          refine k_lv (lv' := [(0, .ref g), (2, .int x), (3, .int (nx b)), (4, .int (nI (t + 1)))]) [2, 3, 1, 0] rfl ?_
          refine k_sub (ws' := [(g, .inr (2, [.int (nI bs), .int (nI wd), .int (nI nb), .ref qs, .ref qd, .ref qh, .ref qn])), (qs, .inl (cI, N, .inl sm)), (qn, .inl (cI, N, .inl nx))]) [2, 0, 1] (by decide) rfl rfl ?_
          refine k_wide (k := 0) (n := 0) (by (try dsimp only); omega) (by (try dsimp only); omega) ?_
          exact ih (t + 1) (b + 1) (nx b) (⟨by omega, by omega, by rw [hch.2 b hbn, of_decide_eq_true hPb], hI.2.2.2.trans (pS_skip hjb hbn hmin (decide_eq_false (fun z => c_29 (congrArg Int32.toInt z))))⟩) (by omega)
        · refine k_iload_n X dX2_firstInChain_32 rfl 2 rfl ?_
          exact k_iret (u := [(g, .inr (2, [.int (nI bs), .int (nI wd), .int (nI nb), .ref qs, .ref qd, .ref qh, .ref qn])), (qs, .inl (cI, N, .inl sm)), (qn, .inl (cI, N, .inl nx))]) X hr [2, 0, 1] (by decide) rfl rfl (⟨by rw [hI.2.2.2, cN_is hjb hbn (decide_eq_true (Int32.toInt_inj.mp c_29)) (fun a h1 h2 => pS_of_pC (hmin a h1 h2))], rfl⟩) (by (try dsimp only); omega) (by (try dsimp only); omega) dX2_firstInChain_33
set_option maxHeartbeats 4000000 in
set_option maxRecDepth 100000 in
theorem c_hasSum (l : Launch) (D : va_G) (cI cB : ClassId) (g : Nat) (qs : Nat) (qd : Nat) (qh : Nat) (qn : Nat) (bs : Nat) (wd : Nat) (nb : Nat) (N : Nat) (sm : Nat → Int32) (hd : Nat → Int32) (nx : Nat → Int32) (x : Int32) (hN : nb ≤ N) (hN2 : N ≤ 2000) (hch : kChain nb sm hd nx) : kC l yX2_hasSum cX2_hasSum 2 (some .boolean) 2 45 (0) (0) D cI cB [.ref g, .int x] [(g, .inr (2, [.int (nI bs), .int (nI wd), .int (nI nb), .ref qs, .ref qd, .ref qh, .ref qn])), (qs, .inl (cI, N, .inl sm)), (qh, .inl (cI, 256, .inl hd)), (qn, .inl (cI, N, .inl nx))] (fun (vV : Option Value) (uU : va_W) => vV = some (.int (b2i (decide (¬ cN (pS sm x) nb 0 = -1)))) ∧ uU = [(g, .inr (2, [.int (nI bs), .int (nI wd), .int (nI nb), .ref qs, .ref qd, .ref qh, .ref qn])), (qs, .inl (cI, N, .inl sm)), (qh, .inl (cI, 256, .inl hd)), (qn, .inl (cI, N, .inl nx))]) := by
  refine k_entry (lv0 := [(0, .ref g), (1, .int x)]) (by decide) (Nat.le_of_ble_eq_true rfl) rfl ?_
  intro zp ze zs zm zb zt zc zA X hr hin
  refine k_aload_n X dX2_hasSum_0 rfl 0 rfl ?_
  refine k_aload_n X dX2_hasSum_1 rfl 0 rfl ?_
  refine k_aload_n X dX2_hasSum_2 rfl 0 rfl ?_
  refine k_get (v := .ref qh) X 0 2 5 rfl rfl (by decide) fl_X2_32 in_X2 rfl rfl dX2_hasSum_3 ?_
  refine k_iload_n X dX2_hasSum_6 rfl 1 rfl ?_
  refine k_callS (wc := []) (wr := [(g, .inr (2, [.int (nI bs), .int (nI wd), .int (nI nb), .ref qs, .ref qd, .ref qh, .ref qn])), (qs, .inl (cI, N, .inl sm)), (qh, .inl (cI, 256, .inl hd)), (qn, .inl (cI, N, .inl nx))]) (As := [.int x]) (n := 1) (st := [.ref qh, .ref g, .ref g]) X (c_chainOf l D cI cB x ) ml_X2_71 sm_X2_chainOf ini_X2 co_X2_chainOf (by decide +kernel) rfl ⟨Nat.le_of_ble_eq_true rfl, Nat.le_of_ble_eq_true rfl⟩ (⟨by (try dsimp only); omega, by (try dsimp only); omega⟩) (Nat.le_of_ble_eq_true rfl) [] [0, 1, 2, 3] rfl rfl rfl (by decide) (by decide) (by decide) rfl dX2_hasSum_7 (fun v_7 u_7 hu_7 => ?_)
  obtain ⟨rfl, rfl⟩ := hu_7
  refine k_to (ws' := [(g, .inr (2, [.int (nI bs), .int (nI wd), .int (nI nb), .ref qs, .ref qd, .ref qh, .ref qn])), (qs, .inl (cI, N, .inl sm)), (qh, .inl (cI, 256, .inl hd)), (qn, .inl (cI, N, .inl nx))]) (st' := [.int (nI (chO x)), .ref qh, .ref g, .ref g]) rfl rfl ?_
  have hco := chO_lt x
  refine k_iald (v := hd (chO x)) X 2 rfl (vp_in_nI (n := chO x) (chO_lt x) (by omega)) (by rw [nI_clamp (n := chO x) (by omega)]) dX2_hasSum_10 ?_
  refine k_iload_n X dX2_hasSum_11 rfl 1 rfl ?_
  refine k_callV (wc := [(g, .inr (2, [.int (nI bs), .int (nI wd), .int (nI nb), .ref qs, .ref qd, .ref qh, .ref qn])), (qs, .inl (cI, N, .inl sm)), (qn, .inl (cI, N, .inl nx))]) (wr := [(qh, .inl (cI, 256, .inl hd))]) (As := [.int (hd (chO x)), .int x]) (n := 2) (st := [.ref g]) (q0 := 0) X (c_firstInChain l D cI cB g qs qd qh qn bs wd nb N sm hd nx (hd (chO x)) x 0 (hN) (hN2) (hch) (Nat.zero_le _) (hch.1 _ (chO_lt x))) rfl rfl ml_X2_74 im_X2_firstInChain se_X2_firstInChain ini_X2 co_X2_firstInChain (by decide +kernel) rfl ⟨Nat.le_of_ble_eq_true rfl, Nat.le_of_ble_eq_true rfl⟩ (⟨by (try dsimp only); omega, by (try dsimp only); omega⟩) (Nat.le_of_ble_eq_true rfl) [0, 1, 3] [2] rfl rfl rfl (by decide) (by decide) (by decide) rfl dX2_hasSum_12 (fun v_12 u_12 hu_12 => ?_)
  obtain ⟨rfl, rfl⟩ := hu_12
  refine k_to (ws' := [(qh, .inl (cI, 256, .inl hd)), (g, .inr (2, [.int (nI bs), .int (nI wd), .int (nI nb), .ref qs, .ref qd, .ref qh, .ref qn])), (qs, .inl (cI, N, .inl sm)), (qn, .inl (cI, N, .inl nx))]) (st' := [.int (cN (pS sm x) nb 0), .ref g]) rfl rfl ?_
  refine k_callV (wc := [(g, .inr (2, [.int (nI bs), .int (nI wd), .int (nI nb), .ref qs, .ref qd, .ref qh, .ref qn]))]) (wr := [(qh, .inl (cI, 256, .inl hd)), (qs, .inl (cI, N, .inl sm)), (qn, .inl (cI, N, .inl nx))]) (As := [.int (cN (pS sm x) nb 0)]) (n := 1) (st := []) (q0 := 0) X (c_has l D cI cB g qs qd qh qn bs wd nb (cN (pS sm x) nb 0) (by omega)) rfl rfl ml_X2_41 im_X2_has se_X2_has ini_X2 co_X2_has (by decide +kernel) rfl ⟨Nat.le_of_ble_eq_true rfl, Nat.le_of_ble_eq_true rfl⟩ (⟨by (try dsimp only); omega, by (try dsimp only); omega⟩) (Nat.le_of_ble_eq_true rfl) [1] [0, 2, 3] rfl rfl rfl (by decide) (by decide) (by decide) rfl dX2_hasSum_15 (fun v_15 u_15 hu_15 => ?_)
  obtain ⟨rfl, rfl⟩ := hu_15
  refine k_to (ws' := [(qh, .inl (cI, 256, .inl hd)), (qs, .inl (cI, N, .inl sm)), (qn, .inl (cI, N, .inl nx)), (g, .inr (2, [.int (nI bs), .int (nI wd), .int (nI nb), .ref qs, .ref qd, .ref qh, .ref qn]))]) (st' := [.int (b2i (decide (rIn (cN (pS sm x) nb 0) nb)))]) rfl rfl ?_
  exact k_zret (u := [(g, .inr (2, [.int (nI bs), .int (nI wd), .int (nI nb), .ref qs, .ref qd, .ref qh, .ref qn])), (qs, .inl (cI, N, .inl sm)), (qh, .inl (cI, 256, .inl hd)), (qn, .inl (cI, N, .inl nx))]) X (by first | rfl | exact b2i_nar _ | decide) hr [3, 1, 0, 2] (by decide) rfl rfl (⟨by congr 2; exact hasS_eq (by omega), rfl⟩) (by (try dsimp only); omega) (by (try dsimp only); omega) dX2_hasSum_18
set_option maxHeartbeats 4000000 in
set_option maxRecDepth 100000 in
theorem c_find (l : Launch) (D : va_G) (cI cB : ClassId) (g : Nat) (qs : Nat) (qd : Nat) (qh : Nat) (qn : Nat) (bs : Nat) (wd : Nat) (nb : Nat) (N : Nat) (sm : Nat → Int32) (dg : Nat → Int32) (hd : Nat → Int32) (nx : Nat → Int32) (o : Nat) (aw : Nat) (ah : Nat) (h : Nat → Int32) (x : Int32) (fv : Int32) (hN : nb ≤ N) (hN2 : N ≤ 2000) (hch : kChain nb sm hd nx) (hwd : wd ≤ 16) : kC l yX2_find cX2_find 6 (some .int) 3 66 (0) (0) D cI cB [.ref g, .int x, .ref o, .int fv] [(g, .inr (2, [.int (nI bs), .int (nI wd), .int (nI nb), .ref qs, .ref qd, .ref qh, .ref qn])), (qs, .inl (cI, N, .inl sm)), (qd, .inl (cB, (16 * N), .inl dg)), (qh, .inl (cI, 256, .inl hd)), (qn, .inl (cI, N, .inl nx)), (o, .inr (0, [.ref aw, .ref ah])), (ah, .inl (cI, 4, .inl h))] (fun (vV : Option Value) (uU : va_W) => vV = some (.int (fnd sm dg h nb wd x fv)) ∧ uU = [(g, .inr (2, [.int (nI bs), .int (nI wd), .int (nI nb), .ref qs, .ref qd, .ref qh, .ref qn])), (qs, .inl (cI, N, .inl sm)), (qd, .inl (cB, (16 * N), .inl dg)), (qh, .inl (cI, 256, .inl hd)), (qn, .inl (cI, N, .inl nx)), (o, .inr (0, [.ref aw, .ref ah])), (ah, .inl (cI, 4, .inl h))]) := by
  refine k_entry (lv0 := [(0, .ref g), (1, .int x), (2, .ref o), (3, .int fv)]) (by decide) (Nat.le_of_ble_eq_true rfl) rfl ?_
  intro zp ze zs zm zb zt zc zA X hr hin
  by_cases hfv : rIn fv nb
  · obtain ⟨vv, hvv, rfl⟩ : ∃ vv : Nat, vv < nb ∧ fv = nI vv := ⟨_, (i_of hfv.1 hfv.2).1, (i_of hfv.1 hfv.2).2.1⟩
    refine k_aload_n X dX2_find_0 rfl 0 rfl ?_
    refine k_iload_n X dX2_find_1 rfl 3 rfl ?_
    refine k_callV (wc := [(g, .inr (2, [.int (nI bs), .int (nI wd), .int (nI nb), .ref qs, .ref qd, .ref qh, .ref qn]))]) (wr := [(qs, .inl (cI, N, .inl sm)), (qd, .inl (cB, (16 * N), .inl dg)), (qh, .inl (cI, 256, .inl hd)), (qn, .inl (cI, N, .inl nx)), (o, .inr (0, [.ref aw, .ref ah])), (ah, .inl (cI, 4, .inl h))]) (As := [.int (nI vv)]) (n := 1) (st := []) (q0 := 0) X (c_has l D cI cB g qs qd qh qn bs wd nb (nI vv) (by omega)) rfl rfl ml_X2_41 im_X2_has se_X2_has ini_X2 co_X2_has (by decide +kernel) rfl ⟨Nat.le_of_ble_eq_true rfl, Nat.le_of_ble_eq_true rfl⟩ (⟨by (try dsimp only); omega, by (try dsimp only); omega⟩) (Nat.le_of_ble_eq_true rfl) [0] [1, 2, 3, 4, 5, 6] rfl rfl rfl (by decide) (by decide) (by decide) rfl dX2_find_2 (fun v_2 u_2 hu_2 => ?_)
    obtain ⟨rfl, rfl⟩ := hu_2
    refine k_to (ws' := [(qs, .inl (cI, N, .inl sm)), (qd, .inl (cB, (16 * N), .inl dg)), (qh, .inl (cI, 256, .inl hd)), (qn, .inl (cI, N, .inl nx)), (o, .inr (0, [.ref aw, .ref ah])), (ah, .inl (cI, 4, .inl h)), (g, .inr (2, [.int (nI bs), .int (nI wd), .int (nI nb), .ref qs, .ref qd, .ref qh, .ref qn]))]) (st' := [.int (b2i (decide (rIn (nI vv) nb)))]) rfl rfl ?_
    refine k_as (y := 1) (b2i_t hfv) ?_
    refine k_if_eq (tgt := 29) (xi := (1 : Int)) X (by decide) dX2_find_5 (by decide) (fun c_5 => ?_) (fun c_5 => ?_)
    · exact absurd c_5 (by decide)
    · refine k_aload_n X dX2_find_8 rfl 0 rfl ?_
      refine k_get (v := .ref qs) X 6 2 3 rfl rfl (by decide) fl_X2_21 in_X2 rfl rfl dX2_find_9 ?_
      refine k_iload_n X dX2_find_12 rfl 3 rfl ?_
      refine k_iald (v := sm vv) X 0 rfl (vp_in_nI (n := vv) (by omega) (by omega)) (by rw [nI_clamp (n := vv) (by omega)]) dX2_find_13 ?_
      refine k_iload_n X dX2_find_14 rfl 1 rfl ?_
      refine k_icmp_ne (tgt := 29) (xi := (sm vv).toInt) (yi := x.toInt) X (rfl) (rfl) dX2_find_15 (by decide) (fun c_15 => ?_) (fun c_15 => ?_)
      · have hnf : fOk sm dg h nb wd x (nI vv) = false := by
          unfold fOk pD
          rw [nI_clamp (by omega)]
          first | rw [decide_eq_false (fun z => c_15 (congrArg Int32.toInt z)), Bool.false_and, Bool.and_false] | rw [Bool.eq_false_iff.mpr hd1, Bool.and_false, Bool.and_false]
        refine k_aload_n X dX2_find_29 rfl 0 rfl ?_
        refine k_aload_n X dX2_find_30 rfl 0 rfl ?_
        refine k_get (v := .ref qh) X 6 2 5 rfl rfl (by decide) fl_X2_32 in_X2 rfl rfl dX2_find_31 ?_
        refine k_iload_n X dX2_find_34 rfl 1 rfl ?_
        refine k_callS (wc := []) (wr := [(qs, .inl (cI, N, .inl sm)), (qd, .inl (cB, (16 * N), .inl dg)), (qh, .inl (cI, 256, .inl hd)), (qn, .inl (cI, N, .inl nx)), (o, .inr (0, [.ref aw, .ref ah])), (ah, .inl (cI, 4, .inl h)), (g, .inr (2, [.int (nI bs), .int (nI wd), .int (nI nb), .ref qs, .ref qd, .ref qh, .ref qn]))]) (As := [.int x]) (n := 1) (st := [.ref qh, .ref g]) X (c_chainOf l D cI cB x ) ml_X2_71 sm_X2_chainOf ini_X2 co_X2_chainOf (by decide +kernel) rfl ⟨Nat.le_of_ble_eq_true rfl, Nat.le_of_ble_eq_true rfl⟩ (⟨by (try dsimp only); omega, by (try dsimp only); omega⟩) (Nat.le_of_ble_eq_true rfl) [] [0, 1, 2, 3, 4, 5, 6] rfl rfl rfl (by decide) (by decide) (by decide) rfl dX2_find_35 (fun v_35 u_35 hu_35 => ?_)
        obtain ⟨rfl, rfl⟩ := hu_35
        refine k_to (ws' := [(qs, .inl (cI, N, .inl sm)), (qd, .inl (cB, (16 * N), .inl dg)), (qh, .inl (cI, 256, .inl hd)), (qn, .inl (cI, N, .inl nx)), (o, .inr (0, [.ref aw, .ref ah])), (ah, .inl (cI, 4, .inl h)), (g, .inr (2, [.int (nI bs), .int (nI wd), .int (nI nb), .ref qs, .ref qd, .ref qh, .ref qn]))]) (st' := [.int (nI (chO x)), .ref qh, .ref g]) rfl rfl ?_
        have hco := chO_lt x
        refine k_iald (v := hd (chO x)) X 2 rfl (vp_in_nI (n := chO x) (chO_lt x) (by omega)) (by rw [nI_clamp (n := chO x) (by omega)]) dX2_find_38 ?_
        refine k_iload_n X dX2_find_39 rfl 1 rfl ?_
        refine k_callV (wc := [(g, .inr (2, [.int (nI bs), .int (nI wd), .int (nI nb), .ref qs, .ref qd, .ref qh, .ref qn])), (qs, .inl (cI, N, .inl sm)), (qn, .inl (cI, N, .inl nx))]) (wr := [(qd, .inl (cB, (16 * N), .inl dg)), (qh, .inl (cI, 256, .inl hd)), (o, .inr (0, [.ref aw, .ref ah])), (ah, .inl (cI, 4, .inl h))]) (As := [.int (hd (chO x)), .int x]) (n := 2) (st := []) (q0 := 0) X (c_firstInChain l D cI cB g qs qd qh qn bs wd nb N sm hd nx (hd (chO x)) x 0 (hN) (hN2) (hch) (Nat.zero_le _) (hch.1 _ (chO_lt x))) rfl rfl ml_X2_74 im_X2_firstInChain se_X2_firstInChain ini_X2 co_X2_firstInChain (by decide +kernel) rfl ⟨Nat.le_of_ble_eq_true rfl, Nat.le_of_ble_eq_true rfl⟩ (⟨by (try dsimp only); omega, by (try dsimp only); omega⟩) (Nat.le_of_ble_eq_true rfl) [6, 0, 3] [1, 2, 4, 5] rfl rfl rfl (by decide) (by decide) (by decide) rfl dX2_find_40 (fun v_40 u_40 hu_40 => ?_)
        obtain ⟨rfl, rfl⟩ := hu_40
        refine k_to (ws' := [(qd, .inl (cB, (16 * N), .inl dg)), (qh, .inl (cI, 256, .inl hd)), (o, .inr (0, [.ref aw, .ref ah])), (ah, .inl (cI, 4, .inl h)), (g, .inr (2, [.int (nI bs), .int (nI wd), .int (nI nb), .ref qs, .ref qd, .ref qh, .ref qn])), (qs, .inl (cI, N, .inl sm)), (qn, .inl (cI, N, .inl nx))]) (st' := [.int (cN (pS sm x) nb 0)]) rfl rfl ?_
        refine k_istore (lv' := [(4, .int (cN (pS sm x) nb 0)), (0, .ref g), (1, .int x), (2, .ref o), (3, .int (nI vv))]) X dX2_find_43 (by decide) rfl ?_
        refine k_iconst (v := 0) X dX2_find_45 (by decide) ?_
        refine k_istore (lv' := [(5, .int 0), (4, .int (cN (pS sm x) nb 0)), (0, .ref g), (1, .int x), (2, .ref o), (3, .int (nI vv))]) X dX2_find_46 (by decide) rfl ?_
        refine k_lv (lv' := [(0, .ref g), (1, .int x), (2, .ref o), (4, .int (cN (pS sm x) nb 0)), (5, .int (nI 0))]) [2, 3, 4, 1, 0] rfl ?_
        refine k_wide (k := 0) (n := 0) (by (try dsimp only); omega) (by (try dsimp only); omega) ?_
        refine k_loop3 (pc1 := 48) (cl := fun (t : Nat) (j : Nat) (v : Int32) => 0) (sl := fun (t : Nat) (j : Nat) (v : Int32) => 0) (wsf := fun (t : Nat) (j : Nat) (v : Int32) => [(qd, .inl (cB, (16 * N), .inl dg)), (qh, .inl (cI, 256, .inl hd)), (o, .inr (0, [.ref aw, .ref ah])), (ah, .inl (cI, 4, .inl h)), (g, .inr (2, [.int (nI bs), .int (nI wd), .int (nI nb), .ref qs, .ref qd, .ref qh, .ref qn])), (qs, .inl (cI, N, .inl sm)), (qn, .inl (cI, N, .inl nx))]) (lvf := fun (t : Nat) (j : Nat) (v : Int32) => [(0, .ref g), (1, .int x), (2, .ref o), (4, .int v), (5, .int (nI t))]) (stf := fun (t : Nat) (j : Nat) (v : Int32) => []) (I := fun (t : Nat) (j : Nat) (v : Int32) => t ≤ j ∧ j ≤ nb ∧ v = cN (pS sm x) nb j ∧ cN (pD sm dg h wd x) nb 0 = cN (pD sm dg h wd x) nb j) (mu := fun (t : Nat) (j : Nat) (v : Int32) => nb - j) ?_ 0 0 (cN (pS sm x) nb 0) (⟨Nat.le_refl _, Nat.zero_le _, rfl, rfl⟩)
        intro t j v hI ih
        try dsimp only at hI ih
        try dsimp only
        have h0 := hI.1; have h1 := hI.2.1
        refine k_iload X dX2_find_48 4 rfl ?_
        refine k_aload_n X dX2_find_50 rfl 0 rfl ?_
        refine k_get (v := .int (nI nb)) X 4 2 2 rfl rfl (by decide) fl_X2_18 in_X2 rfl rfl dX2_find_51 ?_
        refine k_icmp_ge (tgt := 99) (xi := ((t : Nat) : Int)) (yi := ((nb : Nat) : Int)) X (nI_toInt (by omega)) (nI_toInt (by omega)) dX2_find_54 (by decide) (fun c_54 => ?_) (fun c_54 => ?_)
        · refine k_iconst (v := -1) X dX2_find_99 (by decide) ?_
          exact k_iret (u := [(g, .inr (2, [.int (nI bs), .int (nI wd), .int (nI nb), .ref qs, .ref qd, .ref qh, .ref qn])), (qs, .inl (cI, N, .inl sm)), (qd, .inl (cB, (16 * N), .inl dg)), (qh, .inl (cI, 256, .inl hd)), (qn, .inl (cI, N, .inl nx)), (o, .inr (0, [.ref aw, .ref ah])), (ah, .inl (cI, 4, .inl h))]) X hr [4, 5, 0, 1, 6, 2, 3] (by decide) rfl rfl (⟨by rw [fnd, hnf, if_neg (by decide), hI.2.2.2, cN_ge (by omega)], rfl⟩) (by (try dsimp only); omega) (by (try dsimp only); omega) dX2_find_100
        · refine k_aload_n X dX2_find_57 rfl 0 rfl ?_
          refine k_iload X dX2_find_58 3 rfl ?_
          rcases cN_cases (pS sm x) nb j with ⟨e1, hno⟩ | ⟨b, hjb, hbn, hPb, hmin, e1⟩
          · obtain rfl : v = -1 := hI.2.2.1.trans e1
            refine k_callV (wc := [(g, .inr (2, [.int (nI bs), .int (nI wd), .int (nI nb), .ref qs, .ref qd, .ref qh, .ref qn]))]) (wr := [(qd, .inl (cB, (16 * N), .inl dg)), (qh, .inl (cI, 256, .inl hd)), (o, .inr (0, [.ref aw, .ref ah])), (ah, .inl (cI, 4, .inl h)), (qs, .inl (cI, N, .inl sm)), (qn, .inl (cI, N, .inl nx))]) (As := [.int (-1)]) (n := 1) (st := []) (q0 := 0) X (c_has l D cI cB g qs qd qh qn bs wd nb (-1) (by omega)) rfl rfl ml_X2_41 im_X2_has se_X2_has ini_X2 co_X2_has (by decide +kernel) rfl ⟨Nat.le_of_ble_eq_true rfl, Nat.le_of_ble_eq_true rfl⟩ (⟨by (try dsimp only); omega, by (try dsimp only); omega⟩) (Nat.le_of_ble_eq_true rfl) [4] [0, 1, 2, 3, 5, 6] rfl rfl rfl (by decide) (by decide) (by decide) rfl dX2_find_60 (fun v_60 u_60 hu_60 => ?_)
            obtain ⟨rfl, rfl⟩ := hu_60
            refine k_to (ws' := [(qd, .inl (cB, (16 * N), .inl dg)), (qh, .inl (cI, 256, .inl hd)), (o, .inr (0, [.ref aw, .ref ah])), (ah, .inl (cI, 4, .inl h)), (qs, .inl (cI, N, .inl sm)), (qn, .inl (cI, N, .inl nx)), (g, .inr (2, [.int (nI bs), .int (nI wd), .int (nI nb), .ref qs, .ref qd, .ref qh, .ref qn]))]) (st' := [.int (b2i (decide (rIn (-1) nb)))]) rfl rfl ?_
            refine k_as (y := 0) (b2i_f nI_m1) ?_
            refine k_if_eq (tgt := 99) (xi := (0 : Int)) X (by decide) dX2_find_63 (by decide) (fun c_63 => ?_) (fun c_63 => ?_)
            · refine k_iconst (v := -1) X dX2_find_99 (by decide) ?_
              exact k_iret (u := [(g, .inr (2, [.int (nI bs), .int (nI wd), .int (nI nb), .ref qs, .ref qd, .ref qh, .ref qn])), (qs, .inl (cI, N, .inl sm)), (qd, .inl (cB, (16 * N), .inl dg)), (qh, .inl (cI, 256, .inl hd)), (qn, .inl (cI, N, .inl nx)), (o, .inr (0, [.ref aw, .ref ah])), (ah, .inl (cI, 4, .inl h))]) X hr [6, 4, 0, 1, 5, 2, 3] (by decide) rfl rfl (⟨by rw [fnd, hnf, if_neg (by decide), hI.2.2.2, cN_none (fun b h1 h2 => pD_of_pS (hno b h1 h2))], rfl⟩) (by (try dsimp only); omega) (by (try dsimp only); omega) dX2_find_100
            · exact absurd c_63 (by decide)
          · obtain rfl : v = nI b := hI.2.2.1.trans e1
            refine k_callV (wc := [(g, .inr (2, [.int (nI bs), .int (nI wd), .int (nI nb), .ref qs, .ref qd, .ref qh, .ref qn]))]) (wr := [(qd, .inl (cB, (16 * N), .inl dg)), (qh, .inl (cI, 256, .inl hd)), (o, .inr (0, [.ref aw, .ref ah])), (ah, .inl (cI, 4, .inl h)), (qs, .inl (cI, N, .inl sm)), (qn, .inl (cI, N, .inl nx))]) (As := [.int (nI b)]) (n := 1) (st := []) (q0 := 0) X (c_has l D cI cB g qs qd qh qn bs wd nb (nI b) (by omega)) rfl rfl ml_X2_41 im_X2_has se_X2_has ini_X2 co_X2_has (by decide +kernel) rfl ⟨Nat.le_of_ble_eq_true rfl, Nat.le_of_ble_eq_true rfl⟩ (⟨by (try dsimp only); omega, by (try dsimp only); omega⟩) (Nat.le_of_ble_eq_true rfl) [4] [0, 1, 2, 3, 5, 6] rfl rfl rfl (by decide) (by decide) (by decide) rfl dX2_find_60 (fun v_60 u_60 hu_60 => ?_)
            obtain ⟨rfl, rfl⟩ := hu_60
            refine k_to (ws' := [(qd, .inl (cB, (16 * N), .inl dg)), (qh, .inl (cI, 256, .inl hd)), (o, .inr (0, [.ref aw, .ref ah])), (ah, .inl (cI, 4, .inl h)), (qs, .inl (cI, N, .inl sm)), (qn, .inl (cI, N, .inl nx)), (g, .inr (2, [.int (nI bs), .int (nI wd), .int (nI nb), .ref qs, .ref qd, .ref qh, .ref qn]))]) (st' := [.int (b2i (decide (rIn (nI b) nb)))]) rfl rfl ?_
            refine k_as (y := 1) (b2i_t (rIn_nI (by omega) (by omega))) ?_
            refine k_if_eq (tgt := 99) (xi := (1 : Int)) X (by decide) dX2_find_63 (by decide) (fun c_63 => ?_) (fun c_63 => ?_)
            · exact absurd c_63 (by decide)
            · refine k_aload_n X dX2_find_66 rfl 0 rfl ?_
              refine k_iload X dX2_find_67 3 rfl ?_
              refine k_aload_n X dX2_find_69 rfl 2 rfl ?_
              refine k_callV (wc := [(g, .inr (2, [.int (nI bs), .int (nI wd), .int (nI nb), .ref qs, .ref qd, .ref qh, .ref qn])), (qd, .inl (cB, (16 * N), .inl dg)), (o, .inr (0, [.ref aw, .ref ah])), (ah, .inl (cI, 4, .inl h))]) (wr := [(qh, .inl (cI, 256, .inl hd)), (qs, .inl (cI, N, .inl sm)), (qn, .inl (cI, N, .inl nx))]) (As := [.int (nI b), .ref o]) (n := 2) (st := []) (q0 := 0) X (c_hasDigest l D cI cB g qs qd qh qn bs wd nb N dg b o aw ah h (hN) (hN2) (hbn) (hwd)) rfl rfl ml_X2_77 im_X2_hasDigest se_X2_hasDigest ini_X2 co_X2_hasDigest (by decide +kernel) rfl ⟨Nat.le_of_ble_eq_true rfl, Nat.le_of_ble_eq_true rfl⟩ (⟨by (try dsimp only); omega, by (try dsimp only); omega⟩) (Nat.le_of_ble_eq_true rfl) [6, 0, 2, 3] [1, 4, 5] rfl rfl rfl (by decide) (by decide) (by decide) rfl dX2_find_70 (fun v_70 u_70 hu_70 => ?_)
              obtain ⟨rfl, rfl⟩ := hu_70
              refine k_to (ws' := [(qh, .inl (cI, 256, .inl hd)), (qs, .inl (cI, N, .inl sm)), (qn, .inl (cI, N, .inl nx)), (g, .inr (2, [.int (nI bs), .int (nI wd), .int (nI nb), .ref qs, .ref qd, .ref qh, .ref qn])), (qd, .inl (cB, (16 * N), .inl dg)), (o, .inr (0, [.ref aw, .ref ah])), (ah, .inl (cI, 4, .inl h))]) (st' := [.int (b2i (hB dg h wd b))]) rfl rfl ?_
              by_cases hd1 : hB dg h wd b = true
              · refine k_as (y := 1) (by rw [hd1]; rfl) ?_
                refine k_if_eq (tgt := 79) (xi := (1 : Int)) X (by decide) dX2_find_73 (by decide) (fun c_73 => ?_) (fun c_73 => ?_)
                · exact absurd c_73 (by decide)
                · refine k_iload X dX2_find_76 3 rfl ?_
                  exact k_iret (u := [(g, .inr (2, [.int (nI bs), .int (nI wd), .int (nI nb), .ref qs, .ref qd, .ref qh, .ref qn])), (qs, .inl (cI, N, .inl sm)), (qd, .inl (cB, (16 * N), .inl dg)), (qh, .inl (cI, 256, .inl hd)), (qn, .inl (cI, N, .inl nx)), (o, .inr (0, [.ref aw, .ref ah])), (ah, .inl (cI, 4, .inl h))]) X hr [3, 1, 4, 0, 2, 5, 6] (by decide) rfl rfl (⟨by rw [fnd, hnf, if_neg (by decide), hI.2.2.2, cN_is hjb hbn (by unfold pD; rw [show decide (sm b = x) = true from hPb, hd1]; rfl) (fun a h1 h2 => pD_of_pS (hmin a h1 h2))], rfl⟩) (by (try dsimp only); omega) (by (try dsimp only); omega) dX2_find_78
              · refine k_as (y := 0) (by rw [Bool.eq_false_iff.mpr hd1]; rfl) ?_
                refine k_if_eq (tgt := 79) (xi := (0 : Int)) X (by decide) dX2_find_73 (by decide) (fun c_73 => ?_) (fun c_73 => ?_)
                · refine k_aload_n X dX2_find_79 rfl 0 rfl ?_
                  refine k_aload_n X dX2_find_80 rfl 0 rfl ?_
                  refine k_get (v := .ref qn) X 3 2 6 rfl rfl (by decide) fl_X2_29 in_X2 rfl rfl dX2_find_81 ?_
                  refine k_iload X dX2_find_84 3 rfl ?_
                  refine k_iald (v := nx b) X 2 rfl (vp_in_nI (n := b) (by omega) (by omega)) (by rw [nI_clamp (n := b) (by omega)]) dX2_find_86 ?_
                  refine k_iload_n X dX2_find_87 rfl 1 rfl ?_
                  have hsb := of_decide_eq_true hPb
                  refine k_callV (wc := [(g, .inr (2, [.int (nI bs), .int (nI wd), .int (nI nb), .ref qs, .ref qd, .ref qh, .ref qn])), (qs, .inl (cI, N, .inl sm)), (qn, .inl (cI, N, .inl nx))]) (wr := [(qh, .inl (cI, 256, .inl hd)), (qd, .inl (cB, (16 * N), .inl dg)), (o, .inr (0, [.ref aw, .ref ah])), (ah, .inl (cI, 4, .inl h))]) (As := [.int (nx b), .int x]) (n := 2) (st := []) (q0 := 0) X (c_firstInChain l D cI cB g qs qd qh qn bs wd nb N sm hd nx (nx b) x (b + 1) (hN) (hN2) (hch) (by omega) (by rw [hch.2 b hbn, hsb])) rfl rfl ml_X2_74 im_X2_firstInChain se_X2_firstInChain ini_X2 co_X2_firstInChain (by decide +kernel) rfl ⟨Nat.le_of_ble_eq_true rfl, Nat.le_of_ble_eq_true rfl⟩ (⟨by (try dsimp only); omega, by (try dsimp only); omega⟩) (Nat.le_of_ble_eq_true rfl) [3, 1, 2] [0, 4, 5, 6] rfl rfl rfl (by decide) (by decide) (by decide) rfl dX2_find_88 (fun v_88 u_88 hu_88 => ?_)
                  obtain ⟨rfl, rfl⟩ := hu_88
                  refine k_to (ws' := [(qh, .inl (cI, 256, .inl hd)), (qd, .inl (cB, (16 * N), .inl dg)), (o, .inr (0, [.ref aw, .ref ah])), (ah, .inl (cI, 4, .inl h)), (g, .inr (2, [.int (nI bs), .int (nI wd), .int (nI nb), .ref qs, .ref qd, .ref qh, .ref qn])), (qs, .inl (cI, N, .inl sm)), (qn, .inl (cI, N, .inl nx))]) (st' := [.int (cN (pS sm x) nb (b + 1))]) rfl rfl ?_
                  refine k_istore (lv' := [(4, .int (cN (pS sm x) nb (b + 1))), (0, .ref g), (1, .int x), (2, .ref o), (5, .int (nI t))]) X dX2_find_91 (by decide) rfl ?_
                  refine k_iinc (v := nI (t + 1)) (lv' := [(5, .int (nI (t + 1))), (4, .int (cN (pS sm x) nb (b + 1))), (0, .ref g), (1, .int x), (2, .ref o)]) X dX2_find_93 4 rfl (nI_1 _) (by decide) rfl ?_
                  refine k_goto (tgt := 48) X dX2_find_96 (by decide) ?_
                  refine k_lv (lv' := [(0, .ref g), (1, .int x), (2, .ref o), (4, .int (cN (pS sm x) nb (b + 1))), (5, .int (nI (t + 1)))]) [2, 3, 4, 1, 0] rfl ?_
                  refine k_sub (ws' := [(qd, .inl (cB, (16 * N), .inl dg)), (qh, .inl (cI, 256, .inl hd)), (o, .inr (0, [.ref aw, .ref ah])), (ah, .inl (cI, 4, .inl h)), (g, .inr (2, [.int (nI bs), .int (nI wd), .int (nI nb), .ref qs, .ref qd, .ref qh, .ref qn])), (qs, .inl (cI, N, .inl sm)), (qn, .inl (cI, N, .inl nx))]) [1, 0, 2, 3, 4, 5, 6] (by decide) rfl rfl ?_
                  refine k_wide (k := 0) (n := 0) (by (try dsimp only); omega) (by (try dsimp only); omega) ?_
                  exact ih (t + 1) (b + 1) (cN (pS sm x) nb (b + 1)) (⟨by omega, by omega, rfl, hI.2.2.2.trans (pD_skip hjb hbn hmin hd1)⟩) (by omega)
                · exact absurd c_73 (by decide)
      · refine k_aload_n X dX2_find_18 rfl 0 rfl ?_
        refine k_iload_n X dX2_find_19 rfl 3 rfl ?_
        refine k_aload_n X dX2_find_20 rfl 2 rfl ?_
        refine k_callV (wc := [(g, .inr (2, [.int (nI bs), .int (nI wd), .int (nI nb), .ref qs, .ref qd, .ref qh, .ref qn])), (qd, .inl (cB, (16 * N), .inl dg)), (o, .inr (0, [.ref aw, .ref ah])), (ah, .inl (cI, 4, .inl h))]) (wr := [(qs, .inl (cI, N, .inl sm)), (qh, .inl (cI, 256, .inl hd)), (qn, .inl (cI, N, .inl nx))]) (As := [.int (nI vv), .ref o]) (n := 2) (st := []) (q0 := 0) X (c_hasDigest l D cI cB g qs qd qh qn bs wd nb N dg vv o aw ah h (hN) (hN2) (hvv) (hwd)) rfl rfl ml_X2_77 im_X2_hasDigest se_X2_hasDigest ini_X2 co_X2_hasDigest (by decide +kernel) rfl ⟨Nat.le_of_ble_eq_true rfl, Nat.le_of_ble_eq_true rfl⟩ (⟨by (try dsimp only); omega, by (try dsimp only); omega⟩) (Nat.le_of_ble_eq_true rfl) [6, 1, 4, 5] [0, 2, 3] rfl rfl rfl (by decide) (by decide) (by decide) rfl dX2_find_21 (fun v_21 u_21 hu_21 => ?_)
        obtain ⟨rfl, rfl⟩ := hu_21
        refine k_to (ws' := [(qs, .inl (cI, N, .inl sm)), (qh, .inl (cI, 256, .inl hd)), (qn, .inl (cI, N, .inl nx)), (g, .inr (2, [.int (nI bs), .int (nI wd), .int (nI nb), .ref qs, .ref qd, .ref qh, .ref qn])), (qd, .inl (cB, (16 * N), .inl dg)), (o, .inr (0, [.ref aw, .ref ah])), (ah, .inl (cI, 4, .inl h))]) (st' := [.int (b2i (hB dg h wd vv))]) rfl rfl ?_
        by_cases hd1 : hB dg h wd vv = true
        · refine k_as (y := 1) (by rw [hd1]; rfl) ?_
          refine k_if_eq (tgt := 29) (xi := (1 : Int)) X (by decide) dX2_find_24 (by decide) (fun c_24 => ?_) (fun c_24 => ?_)
          · exact absurd c_24 (by decide)
          · refine k_iload_n X dX2_find_27 rfl 3 rfl ?_
            exact k_iret (u := [(g, .inr (2, [.int (nI bs), .int (nI wd), .int (nI nb), .ref qs, .ref qd, .ref qh, .ref qn])), (qs, .inl (cI, N, .inl sm)), (qd, .inl (cB, (16 * N), .inl dg)), (qh, .inl (cI, 256, .inl hd)), (qn, .inl (cI, N, .inl nx)), (o, .inr (0, [.ref aw, .ref ah])), (ah, .inl (cI, 4, .inl h))]) X hr [3, 0, 4, 1, 2, 5, 6] (by decide) rfl rfl (⟨by rw [fnd, if_pos (by unfold fOk pD; rw [nI_clamp (by omega), decide_eq_true hfv, decide_eq_true (Int32.toInt_inj.mp c_15), hd1]; rfl)], rfl⟩) (by (try dsimp only); omega) (by (try dsimp only); omega) dX2_find_28
        · refine k_as (y := 0) (by rw [Bool.eq_false_iff.mpr hd1]; rfl) ?_
          refine k_if_eq (tgt := 29) (xi := (0 : Int)) X (by decide) dX2_find_24 (by decide) (fun c_24 => ?_) (fun c_24 => ?_)
          · have hnf : fOk sm dg h nb wd x (nI vv) = false := by
              unfold fOk pD
              rw [nI_clamp (by omega)]
              first | rw [decide_eq_false (fun z => c_15 (congrArg Int32.toInt z)), Bool.false_and, Bool.and_false] | rw [Bool.eq_false_iff.mpr hd1, Bool.and_false, Bool.and_false]
            refine k_aload_n X dX2_find_29 rfl 0 rfl ?_
            refine k_aload_n X dX2_find_30 rfl 0 rfl ?_
            refine k_get (v := .ref qh) X 3 2 5 rfl rfl (by decide) fl_X2_32 in_X2 rfl rfl dX2_find_31 ?_
            refine k_iload_n X dX2_find_34 rfl 1 rfl ?_
            refine k_callS (wc := []) (wr := [(qs, .inl (cI, N, .inl sm)), (qh, .inl (cI, 256, .inl hd)), (qn, .inl (cI, N, .inl nx)), (g, .inr (2, [.int (nI bs), .int (nI wd), .int (nI nb), .ref qs, .ref qd, .ref qh, .ref qn])), (qd, .inl (cB, (16 * N), .inl dg)), (o, .inr (0, [.ref aw, .ref ah])), (ah, .inl (cI, 4, .inl h))]) (As := [.int x]) (n := 1) (st := [.ref qh, .ref g]) X (c_chainOf l D cI cB x ) ml_X2_71 sm_X2_chainOf ini_X2 co_X2_chainOf (by decide +kernel) rfl ⟨Nat.le_of_ble_eq_true rfl, Nat.le_of_ble_eq_true rfl⟩ (⟨by (try dsimp only); omega, by (try dsimp only); omega⟩) (Nat.le_of_ble_eq_true rfl) [] [0, 1, 2, 3, 4, 5, 6] rfl rfl rfl (by decide) (by decide) (by decide) rfl dX2_find_35 (fun v_35 u_35 hu_35 => ?_)
            obtain ⟨rfl, rfl⟩ := hu_35
            refine k_to (ws' := [(qs, .inl (cI, N, .inl sm)), (qh, .inl (cI, 256, .inl hd)), (qn, .inl (cI, N, .inl nx)), (g, .inr (2, [.int (nI bs), .int (nI wd), .int (nI nb), .ref qs, .ref qd, .ref qh, .ref qn])), (qd, .inl (cB, (16 * N), .inl dg)), (o, .inr (0, [.ref aw, .ref ah])), (ah, .inl (cI, 4, .inl h))]) (st' := [.int (nI (chO x)), .ref qh, .ref g]) rfl rfl ?_
            have hco := chO_lt x
            refine k_iald (v := hd (chO x)) X 1 rfl (vp_in_nI (n := chO x) (chO_lt x) (by omega)) (by rw [nI_clamp (n := chO x) (by omega)]) dX2_find_38 ?_
            refine k_iload_n X dX2_find_39 rfl 1 rfl ?_
            refine k_callV (wc := [(g, .inr (2, [.int (nI bs), .int (nI wd), .int (nI nb), .ref qs, .ref qd, .ref qh, .ref qn])), (qs, .inl (cI, N, .inl sm)), (qn, .inl (cI, N, .inl nx))]) (wr := [(qh, .inl (cI, 256, .inl hd)), (qd, .inl (cB, (16 * N), .inl dg)), (o, .inr (0, [.ref aw, .ref ah])), (ah, .inl (cI, 4, .inl h))]) (As := [.int (hd (chO x)), .int x]) (n := 2) (st := []) (q0 := 0) X (c_firstInChain l D cI cB g qs qd qh qn bs wd nb N sm hd nx (hd (chO x)) x 0 (hN) (hN2) (hch) (Nat.zero_le _) (hch.1 _ (chO_lt x))) rfl rfl ml_X2_74 im_X2_firstInChain se_X2_firstInChain ini_X2 co_X2_firstInChain (by decide +kernel) rfl ⟨Nat.le_of_ble_eq_true rfl, Nat.le_of_ble_eq_true rfl⟩ (⟨by (try dsimp only); omega, by (try dsimp only); omega⟩) (Nat.le_of_ble_eq_true rfl) [3, 0, 2] [1, 4, 5, 6] rfl rfl rfl (by decide) (by decide) (by decide) rfl dX2_find_40 (fun v_40 u_40 hu_40 => ?_)
            obtain ⟨rfl, rfl⟩ := hu_40
            refine k_to (ws' := [(qh, .inl (cI, 256, .inl hd)), (qd, .inl (cB, (16 * N), .inl dg)), (o, .inr (0, [.ref aw, .ref ah])), (ah, .inl (cI, 4, .inl h)), (g, .inr (2, [.int (nI bs), .int (nI wd), .int (nI nb), .ref qs, .ref qd, .ref qh, .ref qn])), (qs, .inl (cI, N, .inl sm)), (qn, .inl (cI, N, .inl nx))]) (st' := [.int (cN (pS sm x) nb 0)]) rfl rfl ?_
            refine k_istore (lv' := [(4, .int (cN (pS sm x) nb 0)), (0, .ref g), (1, .int x), (2, .ref o), (3, .int (nI vv))]) X dX2_find_43 (by decide) rfl ?_
            refine k_iconst (v := 0) X dX2_find_45 (by decide) ?_
            refine k_istore (lv' := [(5, .int 0), (4, .int (cN (pS sm x) nb 0)), (0, .ref g), (1, .int x), (2, .ref o), (3, .int (nI vv))]) X dX2_find_46 (by decide) rfl ?_
            refine k_lv (lv' := [(0, .ref g), (1, .int x), (2, .ref o), (4, .int (cN (pS sm x) nb 0)), (5, .int (nI 0))]) [2, 3, 4, 1, 0] rfl ?_
            refine k_wide (k := 0) (n := 0) (by (try dsimp only); omega) (by (try dsimp only); omega) ?_
            refine k_loop3 (pc1 := 48) (cl := fun (t : Nat) (j : Nat) (v : Int32) => 0) (sl := fun (t : Nat) (j : Nat) (v : Int32) => 0) (wsf := fun (t : Nat) (j : Nat) (v : Int32) => [(qh, .inl (cI, 256, .inl hd)), (qd, .inl (cB, (16 * N), .inl dg)), (o, .inr (0, [.ref aw, .ref ah])), (ah, .inl (cI, 4, .inl h)), (g, .inr (2, [.int (nI bs), .int (nI wd), .int (nI nb), .ref qs, .ref qd, .ref qh, .ref qn])), (qs, .inl (cI, N, .inl sm)), (qn, .inl (cI, N, .inl nx))]) (lvf := fun (t : Nat) (j : Nat) (v : Int32) => [(0, .ref g), (1, .int x), (2, .ref o), (4, .int v), (5, .int (nI t))]) (stf := fun (t : Nat) (j : Nat) (v : Int32) => []) (I := fun (t : Nat) (j : Nat) (v : Int32) => t ≤ j ∧ j ≤ nb ∧ v = cN (pS sm x) nb j ∧ cN (pD sm dg h wd x) nb 0 = cN (pD sm dg h wd x) nb j) (mu := fun (t : Nat) (j : Nat) (v : Int32) => nb - j) ?_ 0 0 (cN (pS sm x) nb 0) (⟨Nat.le_refl _, Nat.zero_le _, rfl, rfl⟩)
            intro t j v hI ih
            try dsimp only at hI ih
            try dsimp only
            have h0 := hI.1; have h1 := hI.2.1
            refine k_iload X dX2_find_48 4 rfl ?_
            refine k_aload_n X dX2_find_50 rfl 0 rfl ?_
            refine k_get (v := .int (nI nb)) X 4 2 2 rfl rfl (by decide) fl_X2_18 in_X2 rfl rfl dX2_find_51 ?_
            refine k_icmp_ge (tgt := 99) (xi := ((t : Nat) : Int)) (yi := ((nb : Nat) : Int)) X (nI_toInt (by omega)) (nI_toInt (by omega)) dX2_find_54 (by decide) (fun c_54 => ?_) (fun c_54 => ?_)
            · refine k_iconst (v := -1) X dX2_find_99 (by decide) ?_
              exact k_iret (u := [(g, .inr (2, [.int (nI bs), .int (nI wd), .int (nI nb), .ref qs, .ref qd, .ref qh, .ref qn])), (qs, .inl (cI, N, .inl sm)), (qd, .inl (cB, (16 * N), .inl dg)), (qh, .inl (cI, 256, .inl hd)), (qn, .inl (cI, N, .inl nx)), (o, .inr (0, [.ref aw, .ref ah])), (ah, .inl (cI, 4, .inl h))]) X hr [4, 5, 1, 0, 6, 2, 3] (by decide) rfl rfl (⟨by rw [fnd, hnf, if_neg (by decide), hI.2.2.2, cN_ge (by omega)], rfl⟩) (by (try dsimp only); omega) (by (try dsimp only); omega) dX2_find_100
            · refine k_aload_n X dX2_find_57 rfl 0 rfl ?_
              refine k_iload X dX2_find_58 3 rfl ?_
              rcases cN_cases (pS sm x) nb j with ⟨e1, hno⟩ | ⟨b, hjb, hbn, hPb, hmin, e1⟩
              · obtain rfl : v = -1 := hI.2.2.1.trans e1
                refine k_callV (wc := [(g, .inr (2, [.int (nI bs), .int (nI wd), .int (nI nb), .ref qs, .ref qd, .ref qh, .ref qn]))]) (wr := [(qh, .inl (cI, 256, .inl hd)), (qd, .inl (cB, (16 * N), .inl dg)), (o, .inr (0, [.ref aw, .ref ah])), (ah, .inl (cI, 4, .inl h)), (qs, .inl (cI, N, .inl sm)), (qn, .inl (cI, N, .inl nx))]) (As := [.int (-1)]) (n := 1) (st := []) (q0 := 0) X (c_has l D cI cB g qs qd qh qn bs wd nb (-1) (by omega)) rfl rfl ml_X2_41 im_X2_has se_X2_has ini_X2 co_X2_has (by decide +kernel) rfl ⟨Nat.le_of_ble_eq_true rfl, Nat.le_of_ble_eq_true rfl⟩ (⟨by (try dsimp only); omega, by (try dsimp only); omega⟩) (Nat.le_of_ble_eq_true rfl) [4] [0, 1, 2, 3, 5, 6] rfl rfl rfl (by decide) (by decide) (by decide) rfl dX2_find_60 (fun v_60 u_60 hu_60 => ?_)
                obtain ⟨rfl, rfl⟩ := hu_60
                refine k_to (ws' := [(qh, .inl (cI, 256, .inl hd)), (qd, .inl (cB, (16 * N), .inl dg)), (o, .inr (0, [.ref aw, .ref ah])), (ah, .inl (cI, 4, .inl h)), (qs, .inl (cI, N, .inl sm)), (qn, .inl (cI, N, .inl nx)), (g, .inr (2, [.int (nI bs), .int (nI wd), .int (nI nb), .ref qs, .ref qd, .ref qh, .ref qn]))]) (st' := [.int (b2i (decide (rIn (-1) nb)))]) rfl rfl ?_
                refine k_as (y := 0) (b2i_f nI_m1) ?_
                refine k_if_eq (tgt := 99) (xi := (0 : Int)) X (by decide) dX2_find_63 (by decide) (fun c_63 => ?_) (fun c_63 => ?_)
                · refine k_iconst (v := -1) X dX2_find_99 (by decide) ?_
                  exact k_iret (u := [(g, .inr (2, [.int (nI bs), .int (nI wd), .int (nI nb), .ref qs, .ref qd, .ref qh, .ref qn])), (qs, .inl (cI, N, .inl sm)), (qd, .inl (cB, (16 * N), .inl dg)), (qh, .inl (cI, 256, .inl hd)), (qn, .inl (cI, N, .inl nx)), (o, .inr (0, [.ref aw, .ref ah])), (ah, .inl (cI, 4, .inl h))]) X hr [6, 4, 1, 0, 5, 2, 3] (by decide) rfl rfl (⟨by rw [fnd, hnf, if_neg (by decide), hI.2.2.2, cN_none (fun b h1 h2 => pD_of_pS (hno b h1 h2))], rfl⟩) (by (try dsimp only); omega) (by (try dsimp only); omega) dX2_find_100
                · exact absurd c_63 (by decide)
              · obtain rfl : v = nI b := hI.2.2.1.trans e1
                refine k_callV (wc := [(g, .inr (2, [.int (nI bs), .int (nI wd), .int (nI nb), .ref qs, .ref qd, .ref qh, .ref qn]))]) (wr := [(qh, .inl (cI, 256, .inl hd)), (qd, .inl (cB, (16 * N), .inl dg)), (o, .inr (0, [.ref aw, .ref ah])), (ah, .inl (cI, 4, .inl h)), (qs, .inl (cI, N, .inl sm)), (qn, .inl (cI, N, .inl nx))]) (As := [.int (nI b)]) (n := 1) (st := []) (q0 := 0) X (c_has l D cI cB g qs qd qh qn bs wd nb (nI b) (by omega)) rfl rfl ml_X2_41 im_X2_has se_X2_has ini_X2 co_X2_has (by decide +kernel) rfl ⟨Nat.le_of_ble_eq_true rfl, Nat.le_of_ble_eq_true rfl⟩ (⟨by (try dsimp only); omega, by (try dsimp only); omega⟩) (Nat.le_of_ble_eq_true rfl) [4] [0, 1, 2, 3, 5, 6] rfl rfl rfl (by decide) (by decide) (by decide) rfl dX2_find_60 (fun v_60 u_60 hu_60 => ?_)
                obtain ⟨rfl, rfl⟩ := hu_60
                refine k_to (ws' := [(qh, .inl (cI, 256, .inl hd)), (qd, .inl (cB, (16 * N), .inl dg)), (o, .inr (0, [.ref aw, .ref ah])), (ah, .inl (cI, 4, .inl h)), (qs, .inl (cI, N, .inl sm)), (qn, .inl (cI, N, .inl nx)), (g, .inr (2, [.int (nI bs), .int (nI wd), .int (nI nb), .ref qs, .ref qd, .ref qh, .ref qn]))]) (st' := [.int (b2i (decide (rIn (nI b) nb)))]) rfl rfl ?_
                refine k_as (y := 1) (b2i_t (rIn_nI (by omega) (by omega))) ?_
                refine k_if_eq (tgt := 99) (xi := (1 : Int)) X (by decide) dX2_find_63 (by decide) (fun c_63 => ?_) (fun c_63 => ?_)
                · exact absurd c_63 (by decide)
                · refine k_aload_n X dX2_find_66 rfl 0 rfl ?_
                  refine k_iload X dX2_find_67 3 rfl ?_
                  refine k_aload_n X dX2_find_69 rfl 2 rfl ?_
                  refine k_callV (wc := [(g, .inr (2, [.int (nI bs), .int (nI wd), .int (nI nb), .ref qs, .ref qd, .ref qh, .ref qn])), (qd, .inl (cB, (16 * N), .inl dg)), (o, .inr (0, [.ref aw, .ref ah])), (ah, .inl (cI, 4, .inl h))]) (wr := [(qh, .inl (cI, 256, .inl hd)), (qs, .inl (cI, N, .inl sm)), (qn, .inl (cI, N, .inl nx))]) (As := [.int (nI b), .ref o]) (n := 2) (st := []) (q0 := 0) X (c_hasDigest l D cI cB g qs qd qh qn bs wd nb N dg b o aw ah h (hN) (hN2) (hbn) (hwd)) rfl rfl ml_X2_77 im_X2_hasDigest se_X2_hasDigest ini_X2 co_X2_hasDigest (by decide +kernel) rfl ⟨Nat.le_of_ble_eq_true rfl, Nat.le_of_ble_eq_true rfl⟩ (⟨by (try dsimp only); omega, by (try dsimp only); omega⟩) (Nat.le_of_ble_eq_true rfl) [6, 1, 2, 3] [0, 4, 5] rfl rfl rfl (by decide) (by decide) (by decide) rfl dX2_find_70 (fun v_70 u_70 hu_70 => ?_)
                  obtain ⟨rfl, rfl⟩ := hu_70
                  refine k_to (ws' := [(qh, .inl (cI, 256, .inl hd)), (qs, .inl (cI, N, .inl sm)), (qn, .inl (cI, N, .inl nx)), (g, .inr (2, [.int (nI bs), .int (nI wd), .int (nI nb), .ref qs, .ref qd, .ref qh, .ref qn])), (qd, .inl (cB, (16 * N), .inl dg)), (o, .inr (0, [.ref aw, .ref ah])), (ah, .inl (cI, 4, .inl h))]) (st' := [.int (b2i (hB dg h wd b))]) rfl rfl ?_
                  by_cases hd1 : hB dg h wd b = true
                  · refine k_as (y := 1) (by rw [hd1]; rfl) ?_
                    refine k_if_eq (tgt := 79) (xi := (1 : Int)) X (by decide) dX2_find_73 (by decide) (fun c_73 => ?_) (fun c_73 => ?_)
                    · exact absurd c_73 (by decide)
                    · refine k_iload X dX2_find_76 3 rfl ?_
                      exact k_iret (u := [(g, .inr (2, [.int (nI bs), .int (nI wd), .int (nI nb), .ref qs, .ref qd, .ref qh, .ref qn])), (qs, .inl (cI, N, .inl sm)), (qd, .inl (cB, (16 * N), .inl dg)), (qh, .inl (cI, 256, .inl hd)), (qn, .inl (cI, N, .inl nx)), (o, .inr (0, [.ref aw, .ref ah])), (ah, .inl (cI, 4, .inl h))]) X hr [3, 1, 4, 0, 2, 5, 6] (by decide) rfl rfl (⟨by rw [fnd, hnf, if_neg (by decide), hI.2.2.2, cN_is hjb hbn (by unfold pD; rw [show decide (sm b = x) = true from hPb, hd1]; rfl) (fun a h1 h2 => pD_of_pS (hmin a h1 h2))], rfl⟩) (by (try dsimp only); omega) (by (try dsimp only); omega) dX2_find_78
                  · refine k_as (y := 0) (by rw [Bool.eq_false_iff.mpr hd1]; rfl) ?_
                    refine k_if_eq (tgt := 79) (xi := (0 : Int)) X (by decide) dX2_find_73 (by decide) (fun c_73 => ?_) (fun c_73 => ?_)
                    · refine k_aload_n X dX2_find_79 rfl 0 rfl ?_
                      refine k_aload_n X dX2_find_80 rfl 0 rfl ?_
                      refine k_get (v := .ref qn) X 3 2 6 rfl rfl (by decide) fl_X2_29 in_X2 rfl rfl dX2_find_81 ?_
                      refine k_iload X dX2_find_84 3 rfl ?_
                      refine k_iald (v := nx b) X 2 rfl (vp_in_nI (n := b) (by omega) (by omega)) (by rw [nI_clamp (n := b) (by omega)]) dX2_find_86 ?_
                      refine k_iload_n X dX2_find_87 rfl 1 rfl ?_
                      have hsb := of_decide_eq_true hPb
                      refine k_callV (wc := [(g, .inr (2, [.int (nI bs), .int (nI wd), .int (nI nb), .ref qs, .ref qd, .ref qh, .ref qn])), (qs, .inl (cI, N, .inl sm)), (qn, .inl (cI, N, .inl nx))]) (wr := [(qh, .inl (cI, 256, .inl hd)), (qd, .inl (cB, (16 * N), .inl dg)), (o, .inr (0, [.ref aw, .ref ah])), (ah, .inl (cI, 4, .inl h))]) (As := [.int (nx b), .int x]) (n := 2) (st := []) (q0 := 0) X (c_firstInChain l D cI cB g qs qd qh qn bs wd nb N sm hd nx (nx b) x (b + 1) (hN) (hN2) (hch) (by omega) (by rw [hch.2 b hbn, hsb])) rfl rfl ml_X2_74 im_X2_firstInChain se_X2_firstInChain ini_X2 co_X2_firstInChain (by decide +kernel) rfl ⟨Nat.le_of_ble_eq_true rfl, Nat.le_of_ble_eq_true rfl⟩ (⟨by (try dsimp only); omega, by (try dsimp only); omega⟩) (Nat.le_of_ble_eq_true rfl) [3, 1, 2] [0, 4, 5, 6] rfl rfl rfl (by decide) (by decide) (by decide) rfl dX2_find_88 (fun v_88 u_88 hu_88 => ?_)
                      obtain ⟨rfl, rfl⟩ := hu_88
                      refine k_to (ws' := [(qh, .inl (cI, 256, .inl hd)), (qd, .inl (cB, (16 * N), .inl dg)), (o, .inr (0, [.ref aw, .ref ah])), (ah, .inl (cI, 4, .inl h)), (g, .inr (2, [.int (nI bs), .int (nI wd), .int (nI nb), .ref qs, .ref qd, .ref qh, .ref qn])), (qs, .inl (cI, N, .inl sm)), (qn, .inl (cI, N, .inl nx))]) (st' := [.int (cN (pS sm x) nb (b + 1))]) rfl rfl ?_
                      refine k_istore (lv' := [(4, .int (cN (pS sm x) nb (b + 1))), (0, .ref g), (1, .int x), (2, .ref o), (5, .int (nI t))]) X dX2_find_91 (by decide) rfl ?_
                      refine k_iinc (v := nI (t + 1)) (lv' := [(5, .int (nI (t + 1))), (4, .int (cN (pS sm x) nb (b + 1))), (0, .ref g), (1, .int x), (2, .ref o)]) X dX2_find_93 4 rfl (nI_1 _) (by decide) rfl ?_
                      refine k_goto (tgt := 48) X dX2_find_96 (by decide) ?_
                      refine k_lv (lv' := [(0, .ref g), (1, .int x), (2, .ref o), (4, .int (cN (pS sm x) nb (b + 1))), (5, .int (nI (t + 1)))]) [2, 3, 4, 1, 0] rfl ?_
                      refine k_sub (ws' := [(qh, .inl (cI, 256, .inl hd)), (qd, .inl (cB, (16 * N), .inl dg)), (o, .inr (0, [.ref aw, .ref ah])), (ah, .inl (cI, 4, .inl h)), (g, .inr (2, [.int (nI bs), .int (nI wd), .int (nI nb), .ref qs, .ref qd, .ref qh, .ref qn])), (qs, .inl (cI, N, .inl sm)), (qn, .inl (cI, N, .inl nx))]) [0, 1, 2, 3, 4, 5, 6] (by decide) rfl rfl ?_
                      refine k_wide (k := 0) (n := 0) (by (try dsimp only); omega) (by (try dsimp only); omega) ?_
                      exact ih (t + 1) (b + 1) (cN (pS sm x) nb (b + 1)) (⟨by omega, by omega, rfl, hI.2.2.2.trans (pD_skip hjb hbn hmin hd1)⟩) (by omega)
                    · exact absurd c_73 (by decide)
          · exact absurd c_24 (by decide)
  · refine k_aload_n X dX2_find_0 rfl 0 rfl ?_
    refine k_iload_n X dX2_find_1 rfl 3 rfl ?_
    refine k_callV (wc := [(g, .inr (2, [.int (nI bs), .int (nI wd), .int (nI nb), .ref qs, .ref qd, .ref qh, .ref qn]))]) (wr := [(qs, .inl (cI, N, .inl sm)), (qd, .inl (cB, (16 * N), .inl dg)), (qh, .inl (cI, 256, .inl hd)), (qn, .inl (cI, N, .inl nx)), (o, .inr (0, [.ref aw, .ref ah])), (ah, .inl (cI, 4, .inl h))]) (As := [.int fv]) (n := 1) (st := []) (q0 := 0) X (c_has l D cI cB g qs qd qh qn bs wd nb fv (by omega)) rfl rfl ml_X2_41 im_X2_has se_X2_has ini_X2 co_X2_has (by decide +kernel) rfl ⟨Nat.le_of_ble_eq_true rfl, Nat.le_of_ble_eq_true rfl⟩ (⟨by (try dsimp only); omega, by (try dsimp only); omega⟩) (Nat.le_of_ble_eq_true rfl) [0] [1, 2, 3, 4, 5, 6] rfl rfl rfl (by decide) (by decide) (by decide) rfl dX2_find_2 (fun v_2 u_2 hu_2 => ?_)
    obtain ⟨rfl, rfl⟩ := hu_2
    refine k_to (ws' := [(qs, .inl (cI, N, .inl sm)), (qd, .inl (cB, (16 * N), .inl dg)), (qh, .inl (cI, 256, .inl hd)), (qn, .inl (cI, N, .inl nx)), (o, .inr (0, [.ref aw, .ref ah])), (ah, .inl (cI, 4, .inl h)), (g, .inr (2, [.int (nI bs), .int (nI wd), .int (nI nb), .ref qs, .ref qd, .ref qh, .ref qn]))]) (st' := [.int (b2i (decide (rIn fv nb)))]) rfl rfl ?_
    refine k_as (y := 0) (b2i_f hfv) ?_
    refine k_if_eq (tgt := 29) (xi := (0 : Int)) X (by decide) dX2_find_5 (by decide) (fun c_5 => ?_) (fun c_5 => ?_)
    · have hnf : fOk sm dg h nb wd x fv = false := by unfold fOk; rw [decide_eq_false hfv, Bool.false_and]
      refine k_aload_n X dX2_find_29 rfl 0 rfl ?_
      refine k_aload_n X dX2_find_30 rfl 0 rfl ?_
      refine k_get (v := .ref qh) X 6 2 5 rfl rfl (by decide) fl_X2_32 in_X2 rfl rfl dX2_find_31 ?_
      refine k_iload_n X dX2_find_34 rfl 1 rfl ?_
      refine k_callS (wc := []) (wr := [(qs, .inl (cI, N, .inl sm)), (qd, .inl (cB, (16 * N), .inl dg)), (qh, .inl (cI, 256, .inl hd)), (qn, .inl (cI, N, .inl nx)), (o, .inr (0, [.ref aw, .ref ah])), (ah, .inl (cI, 4, .inl h)), (g, .inr (2, [.int (nI bs), .int (nI wd), .int (nI nb), .ref qs, .ref qd, .ref qh, .ref qn]))]) (As := [.int x]) (n := 1) (st := [.ref qh, .ref g]) X (c_chainOf l D cI cB x ) ml_X2_71 sm_X2_chainOf ini_X2 co_X2_chainOf (by decide +kernel) rfl ⟨Nat.le_of_ble_eq_true rfl, Nat.le_of_ble_eq_true rfl⟩ (⟨by (try dsimp only); omega, by (try dsimp only); omega⟩) (Nat.le_of_ble_eq_true rfl) [] [0, 1, 2, 3, 4, 5, 6] rfl rfl rfl (by decide) (by decide) (by decide) rfl dX2_find_35 (fun v_35 u_35 hu_35 => ?_)
      obtain ⟨rfl, rfl⟩ := hu_35
      refine k_to (ws' := [(qs, .inl (cI, N, .inl sm)), (qd, .inl (cB, (16 * N), .inl dg)), (qh, .inl (cI, 256, .inl hd)), (qn, .inl (cI, N, .inl nx)), (o, .inr (0, [.ref aw, .ref ah])), (ah, .inl (cI, 4, .inl h)), (g, .inr (2, [.int (nI bs), .int (nI wd), .int (nI nb), .ref qs, .ref qd, .ref qh, .ref qn]))]) (st' := [.int (nI (chO x)), .ref qh, .ref g]) rfl rfl ?_
      have hco := chO_lt x
      refine k_iald (v := hd (chO x)) X 2 rfl (vp_in_nI (n := chO x) (chO_lt x) (by omega)) (by rw [nI_clamp (n := chO x) (by omega)]) dX2_find_38 ?_
      refine k_iload_n X dX2_find_39 rfl 1 rfl ?_
      refine k_callV (wc := [(g, .inr (2, [.int (nI bs), .int (nI wd), .int (nI nb), .ref qs, .ref qd, .ref qh, .ref qn])), (qs, .inl (cI, N, .inl sm)), (qn, .inl (cI, N, .inl nx))]) (wr := [(qd, .inl (cB, (16 * N), .inl dg)), (qh, .inl (cI, 256, .inl hd)), (o, .inr (0, [.ref aw, .ref ah])), (ah, .inl (cI, 4, .inl h))]) (As := [.int (hd (chO x)), .int x]) (n := 2) (st := []) (q0 := 0) X (c_firstInChain l D cI cB g qs qd qh qn bs wd nb N sm hd nx (hd (chO x)) x 0 (hN) (hN2) (hch) (Nat.zero_le _) (hch.1 _ (chO_lt x))) rfl rfl ml_X2_74 im_X2_firstInChain se_X2_firstInChain ini_X2 co_X2_firstInChain (by decide +kernel) rfl ⟨Nat.le_of_ble_eq_true rfl, Nat.le_of_ble_eq_true rfl⟩ (⟨by (try dsimp only); omega, by (try dsimp only); omega⟩) (Nat.le_of_ble_eq_true rfl) [6, 0, 3] [1, 2, 4, 5] rfl rfl rfl (by decide) (by decide) (by decide) rfl dX2_find_40 (fun v_40 u_40 hu_40 => ?_)
      obtain ⟨rfl, rfl⟩ := hu_40
      refine k_to (ws' := [(qd, .inl (cB, (16 * N), .inl dg)), (qh, .inl (cI, 256, .inl hd)), (o, .inr (0, [.ref aw, .ref ah])), (ah, .inl (cI, 4, .inl h)), (g, .inr (2, [.int (nI bs), .int (nI wd), .int (nI nb), .ref qs, .ref qd, .ref qh, .ref qn])), (qs, .inl (cI, N, .inl sm)), (qn, .inl (cI, N, .inl nx))]) (st' := [.int (cN (pS sm x) nb 0)]) rfl rfl ?_
      refine k_istore (lv' := [(4, .int (cN (pS sm x) nb 0)), (0, .ref g), (1, .int x), (2, .ref o), (3, .int fv)]) X dX2_find_43 (by decide) rfl ?_
      refine k_iconst (v := 0) X dX2_find_45 (by decide) ?_
      refine k_istore (lv' := [(5, .int 0), (4, .int (cN (pS sm x) nb 0)), (0, .ref g), (1, .int x), (2, .ref o), (3, .int fv)]) X dX2_find_46 (by decide) rfl ?_
      refine k_lv (lv' := [(0, .ref g), (1, .int x), (2, .ref o), (4, .int (cN (pS sm x) nb 0)), (5, .int (nI 0))]) [2, 3, 4, 1, 0] rfl ?_
      refine k_wide (k := 0) (n := 0) (by (try dsimp only); omega) (by (try dsimp only); omega) ?_
      refine k_loop3 (pc1 := 48) (cl := fun (t : Nat) (j : Nat) (v : Int32) => 0) (sl := fun (t : Nat) (j : Nat) (v : Int32) => 0) (wsf := fun (t : Nat) (j : Nat) (v : Int32) => [(qd, .inl (cB, (16 * N), .inl dg)), (qh, .inl (cI, 256, .inl hd)), (o, .inr (0, [.ref aw, .ref ah])), (ah, .inl (cI, 4, .inl h)), (g, .inr (2, [.int (nI bs), .int (nI wd), .int (nI nb), .ref qs, .ref qd, .ref qh, .ref qn])), (qs, .inl (cI, N, .inl sm)), (qn, .inl (cI, N, .inl nx))]) (lvf := fun (t : Nat) (j : Nat) (v : Int32) => [(0, .ref g), (1, .int x), (2, .ref o), (4, .int v), (5, .int (nI t))]) (stf := fun (t : Nat) (j : Nat) (v : Int32) => []) (I := fun (t : Nat) (j : Nat) (v : Int32) => t ≤ j ∧ j ≤ nb ∧ v = cN (pS sm x) nb j ∧ cN (pD sm dg h wd x) nb 0 = cN (pD sm dg h wd x) nb j) (mu := fun (t : Nat) (j : Nat) (v : Int32) => nb - j) ?_ 0 0 (cN (pS sm x) nb 0) (⟨Nat.le_refl _, Nat.zero_le _, rfl, rfl⟩)
      intro t j v hI ih
      try dsimp only at hI ih
      try dsimp only
      have h0 := hI.1; have h1 := hI.2.1
      refine k_iload X dX2_find_48 4 rfl ?_
      refine k_aload_n X dX2_find_50 rfl 0 rfl ?_
      refine k_get (v := .int (nI nb)) X 4 2 2 rfl rfl (by decide) fl_X2_18 in_X2 rfl rfl dX2_find_51 ?_
      refine k_icmp_ge (tgt := 99) (xi := ((t : Nat) : Int)) (yi := ((nb : Nat) : Int)) X (nI_toInt (by omega)) (nI_toInt (by omega)) dX2_find_54 (by decide) (fun c_54 => ?_) (fun c_54 => ?_)
      · refine k_iconst (v := -1) X dX2_find_99 (by decide) ?_
        exact k_iret (u := [(g, .inr (2, [.int (nI bs), .int (nI wd), .int (nI nb), .ref qs, .ref qd, .ref qh, .ref qn])), (qs, .inl (cI, N, .inl sm)), (qd, .inl (cB, (16 * N), .inl dg)), (qh, .inl (cI, 256, .inl hd)), (qn, .inl (cI, N, .inl nx)), (o, .inr (0, [.ref aw, .ref ah])), (ah, .inl (cI, 4, .inl h))]) X hr [4, 5, 0, 1, 6, 2, 3] (by decide) rfl rfl (⟨by rw [fnd, hnf, if_neg (by decide), hI.2.2.2, cN_ge (by omega)], rfl⟩) (by (try dsimp only); omega) (by (try dsimp only); omega) dX2_find_100
      · refine k_aload_n X dX2_find_57 rfl 0 rfl ?_
        refine k_iload X dX2_find_58 3 rfl ?_
        rcases cN_cases (pS sm x) nb j with ⟨e1, hno⟩ | ⟨b, hjb, hbn, hPb, hmin, e1⟩
        · obtain rfl : v = -1 := hI.2.2.1.trans e1
          refine k_callV (wc := [(g, .inr (2, [.int (nI bs), .int (nI wd), .int (nI nb), .ref qs, .ref qd, .ref qh, .ref qn]))]) (wr := [(qd, .inl (cB, (16 * N), .inl dg)), (qh, .inl (cI, 256, .inl hd)), (o, .inr (0, [.ref aw, .ref ah])), (ah, .inl (cI, 4, .inl h)), (qs, .inl (cI, N, .inl sm)), (qn, .inl (cI, N, .inl nx))]) (As := [.int (-1)]) (n := 1) (st := []) (q0 := 0) X (c_has l D cI cB g qs qd qh qn bs wd nb (-1) (by omega)) rfl rfl ml_X2_41 im_X2_has se_X2_has ini_X2 co_X2_has (by decide +kernel) rfl ⟨Nat.le_of_ble_eq_true rfl, Nat.le_of_ble_eq_true rfl⟩ (⟨by (try dsimp only); omega, by (try dsimp only); omega⟩) (Nat.le_of_ble_eq_true rfl) [4] [0, 1, 2, 3, 5, 6] rfl rfl rfl (by decide) (by decide) (by decide) rfl dX2_find_60 (fun v_60 u_60 hu_60 => ?_)
          obtain ⟨rfl, rfl⟩ := hu_60
          refine k_to (ws' := [(qd, .inl (cB, (16 * N), .inl dg)), (qh, .inl (cI, 256, .inl hd)), (o, .inr (0, [.ref aw, .ref ah])), (ah, .inl (cI, 4, .inl h)), (qs, .inl (cI, N, .inl sm)), (qn, .inl (cI, N, .inl nx)), (g, .inr (2, [.int (nI bs), .int (nI wd), .int (nI nb), .ref qs, .ref qd, .ref qh, .ref qn]))]) (st' := [.int (b2i (decide (rIn (-1) nb)))]) rfl rfl ?_
          refine k_as (y := 0) (b2i_f nI_m1) ?_
          refine k_if_eq (tgt := 99) (xi := (0 : Int)) X (by decide) dX2_find_63 (by decide) (fun c_63 => ?_) (fun c_63 => ?_)
          · refine k_iconst (v := -1) X dX2_find_99 (by decide) ?_
            exact k_iret (u := [(g, .inr (2, [.int (nI bs), .int (nI wd), .int (nI nb), .ref qs, .ref qd, .ref qh, .ref qn])), (qs, .inl (cI, N, .inl sm)), (qd, .inl (cB, (16 * N), .inl dg)), (qh, .inl (cI, 256, .inl hd)), (qn, .inl (cI, N, .inl nx)), (o, .inr (0, [.ref aw, .ref ah])), (ah, .inl (cI, 4, .inl h))]) X hr [6, 4, 0, 1, 5, 2, 3] (by decide) rfl rfl (⟨by rw [fnd, hnf, if_neg (by decide), hI.2.2.2, cN_none (fun b h1 h2 => pD_of_pS (hno b h1 h2))], rfl⟩) (by (try dsimp only); omega) (by (try dsimp only); omega) dX2_find_100
          · exact absurd c_63 (by decide)
        · obtain rfl : v = nI b := hI.2.2.1.trans e1
          refine k_callV (wc := [(g, .inr (2, [.int (nI bs), .int (nI wd), .int (nI nb), .ref qs, .ref qd, .ref qh, .ref qn]))]) (wr := [(qd, .inl (cB, (16 * N), .inl dg)), (qh, .inl (cI, 256, .inl hd)), (o, .inr (0, [.ref aw, .ref ah])), (ah, .inl (cI, 4, .inl h)), (qs, .inl (cI, N, .inl sm)), (qn, .inl (cI, N, .inl nx))]) (As := [.int (nI b)]) (n := 1) (st := []) (q0 := 0) X (c_has l D cI cB g qs qd qh qn bs wd nb (nI b) (by omega)) rfl rfl ml_X2_41 im_X2_has se_X2_has ini_X2 co_X2_has (by decide +kernel) rfl ⟨Nat.le_of_ble_eq_true rfl, Nat.le_of_ble_eq_true rfl⟩ (⟨by (try dsimp only); omega, by (try dsimp only); omega⟩) (Nat.le_of_ble_eq_true rfl) [4] [0, 1, 2, 3, 5, 6] rfl rfl rfl (by decide) (by decide) (by decide) rfl dX2_find_60 (fun v_60 u_60 hu_60 => ?_)
          obtain ⟨rfl, rfl⟩ := hu_60
          refine k_to (ws' := [(qd, .inl (cB, (16 * N), .inl dg)), (qh, .inl (cI, 256, .inl hd)), (o, .inr (0, [.ref aw, .ref ah])), (ah, .inl (cI, 4, .inl h)), (qs, .inl (cI, N, .inl sm)), (qn, .inl (cI, N, .inl nx)), (g, .inr (2, [.int (nI bs), .int (nI wd), .int (nI nb), .ref qs, .ref qd, .ref qh, .ref qn]))]) (st' := [.int (b2i (decide (rIn (nI b) nb)))]) rfl rfl ?_
          refine k_as (y := 1) (b2i_t (rIn_nI (by omega) (by omega))) ?_
          refine k_if_eq (tgt := 99) (xi := (1 : Int)) X (by decide) dX2_find_63 (by decide) (fun c_63 => ?_) (fun c_63 => ?_)
          · exact absurd c_63 (by decide)
          · refine k_aload_n X dX2_find_66 rfl 0 rfl ?_
            refine k_iload X dX2_find_67 3 rfl ?_
            refine k_aload_n X dX2_find_69 rfl 2 rfl ?_
            refine k_callV (wc := [(g, .inr (2, [.int (nI bs), .int (nI wd), .int (nI nb), .ref qs, .ref qd, .ref qh, .ref qn])), (qd, .inl (cB, (16 * N), .inl dg)), (o, .inr (0, [.ref aw, .ref ah])), (ah, .inl (cI, 4, .inl h))]) (wr := [(qh, .inl (cI, 256, .inl hd)), (qs, .inl (cI, N, .inl sm)), (qn, .inl (cI, N, .inl nx))]) (As := [.int (nI b), .ref o]) (n := 2) (st := []) (q0 := 0) X (c_hasDigest l D cI cB g qs qd qh qn bs wd nb N dg b o aw ah h (hN) (hN2) (hbn) (hwd)) rfl rfl ml_X2_77 im_X2_hasDigest se_X2_hasDigest ini_X2 co_X2_hasDigest (by decide +kernel) rfl ⟨Nat.le_of_ble_eq_true rfl, Nat.le_of_ble_eq_true rfl⟩ (⟨by (try dsimp only); omega, by (try dsimp only); omega⟩) (Nat.le_of_ble_eq_true rfl) [6, 0, 2, 3] [1, 4, 5] rfl rfl rfl (by decide) (by decide) (by decide) rfl dX2_find_70 (fun v_70 u_70 hu_70 => ?_)
            obtain ⟨rfl, rfl⟩ := hu_70
            refine k_to (ws' := [(qh, .inl (cI, 256, .inl hd)), (qs, .inl (cI, N, .inl sm)), (qn, .inl (cI, N, .inl nx)), (g, .inr (2, [.int (nI bs), .int (nI wd), .int (nI nb), .ref qs, .ref qd, .ref qh, .ref qn])), (qd, .inl (cB, (16 * N), .inl dg)), (o, .inr (0, [.ref aw, .ref ah])), (ah, .inl (cI, 4, .inl h))]) (st' := [.int (b2i (hB dg h wd b))]) rfl rfl ?_
            by_cases hd1 : hB dg h wd b = true
            · refine k_as (y := 1) (by rw [hd1]; rfl) ?_
              refine k_if_eq (tgt := 79) (xi := (1 : Int)) X (by decide) dX2_find_73 (by decide) (fun c_73 => ?_) (fun c_73 => ?_)
              · exact absurd c_73 (by decide)
              · refine k_iload X dX2_find_76 3 rfl ?_
                exact k_iret (u := [(g, .inr (2, [.int (nI bs), .int (nI wd), .int (nI nb), .ref qs, .ref qd, .ref qh, .ref qn])), (qs, .inl (cI, N, .inl sm)), (qd, .inl (cB, (16 * N), .inl dg)), (qh, .inl (cI, 256, .inl hd)), (qn, .inl (cI, N, .inl nx)), (o, .inr (0, [.ref aw, .ref ah])), (ah, .inl (cI, 4, .inl h))]) X hr [3, 1, 4, 0, 2, 5, 6] (by decide) rfl rfl (⟨by rw [fnd, hnf, if_neg (by decide), hI.2.2.2, cN_is hjb hbn (by unfold pD; rw [show decide (sm b = x) = true from hPb, hd1]; rfl) (fun a h1 h2 => pD_of_pS (hmin a h1 h2))], rfl⟩) (by (try dsimp only); omega) (by (try dsimp only); omega) dX2_find_78
            · refine k_as (y := 0) (by rw [Bool.eq_false_iff.mpr hd1]; rfl) ?_
              refine k_if_eq (tgt := 79) (xi := (0 : Int)) X (by decide) dX2_find_73 (by decide) (fun c_73 => ?_) (fun c_73 => ?_)
              · refine k_aload_n X dX2_find_79 rfl 0 rfl ?_
                refine k_aload_n X dX2_find_80 rfl 0 rfl ?_
                refine k_get (v := .ref qn) X 3 2 6 rfl rfl (by decide) fl_X2_29 in_X2 rfl rfl dX2_find_81 ?_
                refine k_iload X dX2_find_84 3 rfl ?_
                refine k_iald (v := nx b) X 2 rfl (vp_in_nI (n := b) (by omega) (by omega)) (by rw [nI_clamp (n := b) (by omega)]) dX2_find_86 ?_
                refine k_iload_n X dX2_find_87 rfl 1 rfl ?_
                have hsb := of_decide_eq_true hPb
                refine k_callV (wc := [(g, .inr (2, [.int (nI bs), .int (nI wd), .int (nI nb), .ref qs, .ref qd, .ref qh, .ref qn])), (qs, .inl (cI, N, .inl sm)), (qn, .inl (cI, N, .inl nx))]) (wr := [(qh, .inl (cI, 256, .inl hd)), (qd, .inl (cB, (16 * N), .inl dg)), (o, .inr (0, [.ref aw, .ref ah])), (ah, .inl (cI, 4, .inl h))]) (As := [.int (nx b), .int x]) (n := 2) (st := []) (q0 := 0) X (c_firstInChain l D cI cB g qs qd qh qn bs wd nb N sm hd nx (nx b) x (b + 1) (hN) (hN2) (hch) (by omega) (by rw [hch.2 b hbn, hsb])) rfl rfl ml_X2_74 im_X2_firstInChain se_X2_firstInChain ini_X2 co_X2_firstInChain (by decide +kernel) rfl ⟨Nat.le_of_ble_eq_true rfl, Nat.le_of_ble_eq_true rfl⟩ (⟨by (try dsimp only); omega, by (try dsimp only); omega⟩) (Nat.le_of_ble_eq_true rfl) [3, 1, 2] [0, 4, 5, 6] rfl rfl rfl (by decide) (by decide) (by decide) rfl dX2_find_88 (fun v_88 u_88 hu_88 => ?_)
                obtain ⟨rfl, rfl⟩ := hu_88
                refine k_to (ws' := [(qh, .inl (cI, 256, .inl hd)), (qd, .inl (cB, (16 * N), .inl dg)), (o, .inr (0, [.ref aw, .ref ah])), (ah, .inl (cI, 4, .inl h)), (g, .inr (2, [.int (nI bs), .int (nI wd), .int (nI nb), .ref qs, .ref qd, .ref qh, .ref qn])), (qs, .inl (cI, N, .inl sm)), (qn, .inl (cI, N, .inl nx))]) (st' := [.int (cN (pS sm x) nb (b + 1))]) rfl rfl ?_
                refine k_istore (lv' := [(4, .int (cN (pS sm x) nb (b + 1))), (0, .ref g), (1, .int x), (2, .ref o), (5, .int (nI t))]) X dX2_find_91 (by decide) rfl ?_
                refine k_iinc (v := nI (t + 1)) (lv' := [(5, .int (nI (t + 1))), (4, .int (cN (pS sm x) nb (b + 1))), (0, .ref g), (1, .int x), (2, .ref o)]) X dX2_find_93 4 rfl (nI_1 _) (by decide) rfl ?_
                refine k_goto (tgt := 48) X dX2_find_96 (by decide) ?_
                refine k_lv (lv' := [(0, .ref g), (1, .int x), (2, .ref o), (4, .int (cN (pS sm x) nb (b + 1))), (5, .int (nI (t + 1)))]) [2, 3, 4, 1, 0] rfl ?_
                refine k_sub (ws' := [(qd, .inl (cB, (16 * N), .inl dg)), (qh, .inl (cI, 256, .inl hd)), (o, .inr (0, [.ref aw, .ref ah])), (ah, .inl (cI, 4, .inl h)), (g, .inr (2, [.int (nI bs), .int (nI wd), .int (nI nb), .ref qs, .ref qd, .ref qh, .ref qn])), (qs, .inl (cI, N, .inl sm)), (qn, .inl (cI, N, .inl nx))]) [1, 0, 2, 3, 4, 5, 6] (by decide) rfl rfl ?_
                refine k_wide (k := 0) (n := 0) (by (try dsimp only); omega) (by (try dsimp only); omega) ?_
                exact ih (t + 1) (b + 1) (cN (pS sm x) nb (b + 1)) (⟨by omega, by omega, rfl, hI.2.2.2.trans (pD_skip hjb hbn hmin hd1)⟩) (by omega)
              · exact absurd c_73 (by decide)
    · exact absurd c_5 (by decide)
