theorem n_mulc (a b : Nat) : nI a * nI b = nI (b * a) := by rw [Nat.mul_comm]; exact pk_mul a b
theorem blk_fit {k bs b : Nat} (h : b < k / bs) : bs * b + bs ≤ k := by
  have h1 : bs * (b + 1) ≤ bs * (k / bs) := Nat.mul_le_mul_left bs h
  have h2 : bs * (k / bs) ≤ k := Nat.mul_div_le k bs
  rw [Nat.mul_add, Nat.mul_one] at h1
  omega
theorem chain_step {sm hd nx : Nat → Int32} {nb b : Nat} (hb : b < nb) (h1 : ∀ c, c < 256 → hd c = cN (pC sm c) nb (b + 1)) (h2 : ∀ a, b + 1 ≤ a → a < nb → nx a = cN (pC sm (chO (sm a))) nb (a + 1)) :
    (∀ c, c < 256 → upd hd (chO (sm b)) (nI b) c = cN (pC sm c) nb b) ∧ ∀ a, b ≤ a → a < nb → upd nx b (hd (chO (sm b))) a = cN (pC sm (chO (sm a))) nb (a + 1) := by
  refine ⟨fun c hc => ?_, fun a ha hn => ?_⟩
  · by_cases e : c = chO (sm b)
    · rw [e, pk_us, cN_t hb (decide_eq_true rfl)]
    · rw [pk_un e, h1 c hc, cN_s hb (decide_eq_false (fun z => e z.symm))]
  · by_cases e : a = b
    · rw [e, pk_us, h1 _ (chO_lt _)]
    · rw [pk_un e, h2 a (by omega) hn]
def sx (z : Int32) : Int32 := z.toInt8.toInt32
theorem dByte_congr {h h' : Nat → Int32} (hh : ∀ j, j < 4 → h j = h' j) {k : Nat} (hk : k < 16) : dByte h k = dByte h' k := by
  unfold dByte
  rw [hh (k / 4) (by omega)]
abbrev kSums (f sm : Nat → Int32) (bs n : Nat) : Prop := ∀ b, b < n → sm b = sSum f (bs * b) bs
abbrev kDigs (f dg : Nat → Int32) (bs n : Nat) : Prop := ∀ b, b < n → ∀ k, k < 16 → dg (16 * b + k) = sx (dByte (mDig f (bs * b) bs) k)
theorem digs_step {f dg : Nat → Int32} {bs b kk : Nat} {v : Int32} (h1 : kDigs f dg bs b) (h2 : ∀ j, j < kk → dg (16 * b + j) = sx (dByte (mDig f (bs * b) bs) j)) (hkk : kk < 16) (hv : v = sx (dByte (mDig f (bs * b) bs) kk)) :
    kDigs f (upd dg (16 * b + kk) v) bs b ∧ ∀ j, j < kk + 1 → upd dg (16 * b + kk) v (16 * b + j) = sx (dByte (mDig f (bs * b) bs) j) := by
  refine ⟨fun c hc k hk => ?_, fun j hj => ?_⟩
  · rw [pk_un (by omega), h1 c hc k hk]
  · by_cases e : j = kk
    · rw [e, pk_us, hv]
    · rw [pk_un (by omega), h2 j (by omega)]
set_option maxHeartbeats 4000000 in
set_option maxRecDepth 100000 in
theorem c_chainBlocks (l : Launch) (D : va_G) (cI cB : ClassId) (g : Nat) (qs : Nat) (qd : Nat) (qh : Nat) (qn : Nat) (bs : Nat) (wd : Nat) (nb : Nat) (N : Nat) (sm : Nat → Int32) (hd : Nat → Int32) (nx : Nat → Int32) (hN : nb ≤ N) (hN2 : N ≤ 2000) : kC l yX2_chainBlocks cX2_chainBlocks 3 none 1 23 (0) (0) D cI cB [.ref g] [(g, .inr (2, [.int (nI bs), .int (nI wd), .int (nI nb), .ref qs, .ref qd, .ref qh, .ref qn])), (qs, .inl (cI, N, .inl sm)), (qh, .inl (cI, 256, .inl hd)), (qn, .inl (cI, N, .inl nx))] (fun (vV : Option Value) (uU : va_W) => ∃ (h2 : Nat → Int32) (n2 : Nat → Int32), vV = none ∧ uU = [(g, .inr (2, [.int (nI bs), .int (nI wd), .int (nI nb), .ref qs, .ref qd, .ref qh, .ref qn])), (qs, .inl (cI, N, .inl sm)), (qh, .inl (cI, 256, .inl h2)), (qn, .inl (cI, N, .inl n2))] ∧ (kChain nb sm h2 n2)) := by
  refine k_entry (lv0 := [(0, .ref g)]) (by decide) (Nat.le_of_ble_eq_true rfl) rfl ?_
  intro zp ze zs zm zb zt zc zA X hr hin
  refine k_aload_n X dX2_chainBlocks_0 rfl 0 rfl ?_
  refine k_get (v := .ref qh) X 0 2 5 rfl rfl (by decide) fl_X2_32 in_X2 rfl rfl dX2_chainBlocks_1 ?_
  refine k_iconst (v := -1) X dX2_chainBlocks_4 (by decide) ?_
  refine k_callS (wc := [(qh, .inl (cI, 256, .inl hd))]) (wr := [(g, .inr (2, [.int (nI bs), .int (nI wd), .int (nI nb), .ref qs, .ref qd, .ref qh, .ref qn])), (qs, .inl (cI, N, .inl sm)), (qn, .inl (cI, N, .inl nx))]) (As := [.ref qh, .int (-1)]) (n := 2) (st := []) X (c_fill l D cI cB qh 256 hd (-1) (by omega)) ml_X2_35 sm_J7_fill_53178 ini_J7 co_J7_fill_53178 (by decide +kernel) rfl ⟨Nat.le_of_ble_eq_true rfl, Nat.le_of_ble_eq_true rfl⟩ (⟨by (try dsimp only); omega, by (try dsimp only); omega⟩) (Nat.le_of_ble_eq_true rfl) [2] [0, 1, 3] rfl rfl rfl (by decide) (by decide) (by decide) rfl dX2_chainBlocks_5 (fun v_5 u_5 hu_5 => ?_)
  obtain ⟨g0, rfl, rfl, hg0⟩ := hu_5
  refine k_to (ws' := [(g, .inr (2, [.int (nI bs), .int (nI wd), .int (nI nb), .ref qs, .ref qd, .ref qh, .ref qn])), (qs, .inl (cI, N, .inl sm)), (qn, .inl (cI, N, .inl nx)), (qh, .inl (cI, 256, .inl g0))]) (st' := []) rfl rfl ?_
  refine k_aload_n X dX2_chainBlocks_8 rfl 0 rfl ?_
  refine k_get (v := .int (nI nb)) X 0 2 2 rfl rfl (by decide) fl_X2_18 in_X2 rfl rfl dX2_chainBlocks_9 ?_
  refine k_iconst (v := 1) X dX2_chainBlocks_12 (by decide) ?_
  refine k_isub X dX2_chainBlocks_13 ?_
  refine k_istore_n (lv' := [(1, .int ((nI nb) - 1)), (0, .ref g)]) X dX2_chainBlocks_14 rfl (by decide) rfl ?_
  refine k_lv (lv' := [(0, .ref g), (1, .int (nI nb - 1))]) [1, 0] rfl ?_
  refine k_sub (ws' := [(g, .inr (2, [.int (nI bs), .int (nI wd), .int (nI nb), .ref qs, .ref qd, .ref qh, .ref qn])), (qs, .inl (cI, N, .inl sm)), (qh, .inl (cI, 256, .inl g0)), (qn, .inl (cI, N, .inl nx))]) [0, 1, 3, 2] (by decide) rfl rfl ?_
  refine k_wide (k := 0) (n := 0) (by (try dsimp only); omega) (by (try dsimp only); omega) ?_
  refine k_loop3 (pc1 := 15) (cl := fun (i : Nat) (h1 : Nat → Int32) (n1 : Nat → Int32) => 0) (sl := fun (i : Nat) (h1 : Nat → Int32) (n1 : Nat → Int32) => 0) (wsf := fun (i : Nat) (h1 : Nat → Int32) (n1 : Nat → Int32) => [(g, .inr (2, [.int (nI bs), .int (nI wd), .int (nI nb), .ref qs, .ref qd, .ref qh, .ref qn])), (qs, .inl (cI, N, .inl sm)), (qh, .inl (cI, 256, .inl h1)), (qn, .inl (cI, N, .inl n1))]) (lvf := fun (i : Nat) (h1 : Nat → Int32) (n1 : Nat → Int32) => [(0, .ref g), (1, .int (nI i - 1))]) (stf := fun (i : Nat) (h1 : Nat → Int32) (n1 : Nat → Int32) => []) (I := fun (i : Nat) (h1 : Nat → Int32) (n1 : Nat → Int32) => i ≤ nb ∧ (∀ c, c < 256 → h1 c = cN (pC sm c) nb i) ∧ ∀ a, i ≤ a → a < nb → n1 a = cN (pC sm (chO (sm a))) nb (a + 1)) (mu := fun (i : Nat) (h1 : Nat → Int32) (n1 : Nat → Int32) => i) ?_ nb g0 nx (⟨Nat.le_refl _, fun c hc => by rw [hg0 c hc, cN_ge (Nat.le_refl _)], fun a h1 h2 => absurd h2 (by omega)⟩)
  intro i h1 n1 hI ih
  try dsimp only at hI ih
  try dsimp only
  have hi := hI.1
  refine k_iload_n X dX2_chainBlocks_15 rfl 1 rfl ?_
  refine k_if_lt (tgt := 54) (xi := ((i : Nat) : Int) - 1) X (pk_sub_toInt (a := i) (b := 1) (by omega) (by omega)) dX2_chainBlocks_16 (by decide) (fun c_16 => ?_) (fun c_16 => ?_)
  · exact k_vret (u := [(g, .inr (2, [.int (nI bs), .int (nI wd), .int (nI nb), .ref qs, .ref qd, .ref qh, .ref qn])), (qs, .inl (cI, N, .inl sm)), (qh, .inl (cI, 256, .inl h1)), (qn, .inl (cI, N, .inl n1))]) X hr [0, 1, 2, 3] (by decide) rfl rfl (⟨h1, n1, rfl, rfl, fun c hc => by rw [hI.2.1 c hc, show i = 0 by omega], fun b hb => hI.2.2 b (by omega) hb⟩) (by (try dsimp only); omega) (by (try dsimp only); omega) dX2_chainBlocks_54
  · obtain ⟨b, rfl⟩ : ∃ b, i = b + 1 := ⟨i - 1, by omega⟩
    rw [nI_pred b]
    refine k_aload_n X dX2_chainBlocks_19 rfl 0 rfl ?_
    refine k_get (v := .ref qs) X 0 2 3 rfl rfl (by decide) fl_X2_21 in_X2 rfl rfl dX2_chainBlocks_20 ?_
    refine k_iload_n X dX2_chainBlocks_23 rfl 1 rfl ?_
    refine k_iald (v := sm b) X 1 rfl (vp_in_nI (n := b) (by omega) (by omega)) (by rw [nI_clamp (n := b) (by omega)]) dX2_chainBlocks_24 ?_
    refine k_callS (wc := []) (wr := [(g, .inr (2, [.int (nI bs), .int (nI wd), .int (nI nb), .ref qs, .ref qd, .ref qh, .ref qn])), (qs, .inl (cI, N, .inl sm)), (qh, .inl (cI, 256, .inl h1)), (qn, .inl (cI, N, .inl n1))]) (As := [.int (sm b)]) (n := 1) (st := []) X (c_chainOf l D cI cB (sm b) ) ml_X2_71 sm_X2_chainOf ini_X2 co_X2_chainOf (by decide +kernel) rfl ⟨Nat.le_of_ble_eq_true rfl, Nat.le_of_ble_eq_true rfl⟩ (⟨by (try dsimp only); omega, by (try dsimp only); omega⟩) (Nat.le_of_ble_eq_true rfl) [] [0, 1, 2, 3] rfl rfl rfl (by decide) (by decide) (by decide) rfl dX2_chainBlocks_25 (fun v_25 u_25 hu_25 => ?_)
    obtain ⟨rfl, rfl⟩ := hu_25
    refine k_to (ws' := [(g, .inr (2, [.int (nI bs), .int (nI wd), .int (nI nb), .ref qs, .ref qd, .ref qh, .ref qn])), (qs, .inl (cI, N, .inl sm)), (qh, .inl (cI, 256, .inl h1)), (qn, .inl (cI, N, .inl n1))]) (st' := [.int (nI (chO (sm b)))]) rfl rfl ?_
    have hco := chO_lt (sm b)
    refine k_istore_n (lv' := [(2, .int (nI (chO (sm b)))), (0, .ref g), (1, .int (nI b))]) X dX2_chainBlocks_28 rfl (by decide) rfl ?_
    refine k_aload_n X dX2_chainBlocks_29 rfl 1 rfl ?_
    refine k_get (v := .ref qn) X 0 2 6 rfl rfl (by decide) fl_X2_29 in_X2 rfl rfl dX2_chainBlocks_30 ?_
    refine k_iload_n X dX2_chainBlocks_33 rfl 2 rfl ?_
    refine k_aload_n X dX2_chainBlocks_34 rfl 1 rfl ?_
    refine k_get (v := .ref qh) X 0 2 5 rfl rfl (by decide) fl_X2_32 in_X2 rfl rfl dX2_chainBlocks_35 ?_
    refine k_iload_n X dX2_chainBlocks_38 rfl 0 rfl ?_
    refine k_iald (v := h1 (chO (sm b))) X 2 rfl (vp_in_nI (n := chO (sm b)) (hco) (by omega)) (by rw [nI_clamp (n := chO (sm b)) (by omega)]) dX2_chainBlocks_39 ?_
    refine k_iast (f' := upd n1 b (h1 (chO (sm b)))) (ws' := [(g, .inr (2, [.int (nI bs), .int (nI wd), .int (nI nb), .ref qs, .ref qd, .ref qh, .ref qn])), (qs, .inl (cI, N, .inl sm)), (qh, .inl (cI, 256, .inl h1)), (qn, .inl (cI, N, .inl (upd n1 b (h1 (chO (sm b))))))]) X 3 rfl (vp_in_nI (n := b) (by omega) (by omega)) (by rw [nI_clamp (n := b) (by omega)]) rfl dX2_chainBlocks_40 ?_
    refine k_aload_n X dX2_chainBlocks_41 rfl 1 rfl ?_
    refine k_get (v := .ref qh) X 0 2 5 rfl rfl (by decide) fl_X2_32 in_X2 rfl rfl dX2_chainBlocks_42 ?_
    refine k_iload_n X dX2_chainBlocks_45 rfl 0 rfl ?_
    refine k_iload_n X dX2_chainBlocks_46 rfl 2 rfl ?_
    refine k_iast (f' := upd h1 (chO (sm b)) (nI b)) (ws' := [(g, .inr (2, [.int (nI bs), .int (nI wd), .int (nI nb), .ref qs, .ref qd, .ref qh, .ref qn])), (qs, .inl (cI, N, .inl sm)), (qh, .inl (cI, 256, .inl (upd h1 (chO (sm b)) (nI b)))), (qn, .inl (cI, N, .inl (upd n1 b (h1 (chO (sm b))))))]) X 2 rfl (vp_in_nI (n := chO (sm b)) (hco) (by omega)) (by rw [nI_clamp (n := chO (sm b)) (by omega)]) rfl dX2_chainBlocks_47 ?_
    refine k_iinc (v := nI b - 1) (lv' := [(1, .int (nI b - 1)), (2, .int (nI (chO (sm b)))), (0, .ref g)]) X dX2_chainBlocks_48 2 rfl (by rw [show Int32.ofInt (-1) = -1 from rfl, Int32.sub_eq_add_neg]) (by decide) rfl ?_
    refine k_goto (tgt := 15) X dX2_chainBlocks_51 (by decide) ?_
    refine k_lv (lv' := [(0, .ref g), (1, .int (nI b - 1))]) [2, 0] rfl ?_
    refine k_sub (ws' := [(g, .inr (2, [.int (nI bs), .int (nI wd), .int (nI nb), .ref qs, .ref qd, .ref qh, .ref qn])), (qs, .inl (cI, N, .inl sm)), (qh, .inl (cI, 256, .inl (upd h1 (chO (sm b)) (nI b)))), (qn, .inl (cI, N, .inl (upd n1 b (h1 (chO (sm b))))))]) [0, 1, 2, 3] (by decide) rfl rfl ?_
    refine k_wide (k := 0) (n := 0) (by (try dsimp only); omega) (by (try dsimp only); omega) ?_
    exact ih b (upd h1 (chO (sm b)) (nI b)) (upd n1 b (h1 (chO (sm b)))) (⟨by omega, chain_step (by omega) hI.2.1 hI.2.2⟩) (by omega)
set_option maxHeartbeats 4000000 in
set_option maxRecDepth 100000 in
theorem c_makeRoom (l : Launch) (D : va_G) (cI cB : ClassId) (g : Nat) (qs : Nat) (qd : Nat) (qh : Nat) (qn : Nat) (bs : Nat) (wd : Nat) (nb : Nat) (N : Nat) (sm : Nat → Int32) (dg : Nat → Int32) (nx : Nat → Int32) (hN : 16 ≤ N) (hN2 : N ≤ 2000) (hnb : nb ≤ 2000) : kC l yX2_makeRoom cX2_makeRoom 2 none 1 14 (3) (18 * rCost 2000 N nb) D cI cB [.ref g] [(g, .inr (2, [.int (nI bs), .int (nI wd), .int (nI nb), .ref qs, .ref qd, .ref qh, .ref qn])), (qs, .inl (cI, N, .inl sm)), (qd, .inl (cB, (16 * N), .inl dg)), (qn, .inl (cI, N, .inl nx))] (fun (vV : Option Value) (uU : va_W) => ∃ (s2 : Nat) (d2 : Nat) (n2 : Nat) (sm2 : Nat → Int32) (dg2 : Nat → Int32) (nx2 : Nat → Int32), vV = none ∧ uU = [(g, .inr (2, [.int (nI bs), .int (nI wd), .int (nI nb), .ref s2, .ref d2, .ref qh, .ref n2])), (s2, .inl (cI, (rCap 2000 N nb), .inl sm2)), (d2, .inl (cB, (16 * rCap 2000 N nb), .inl dg2)), (n2, .inl (cI, (rCap 2000 N nb), .inl nx2))]) := by
  refine k_entry (lv0 := [(0, .ref g)]) (by decide) (Nat.le_of_ble_eq_true rfl) rfl ?_
  intro zp ze zs zm zb zt zc zA X hr hin
  refine k_aload_n X dX2_makeRoom_0 rfl 0 rfl ?_
  refine k_get (v := .int (nI nb)) X 0 2 2 rfl rfl (by decide) fl_X2_18 in_X2 rfl rfl dX2_makeRoom_1 ?_
  refine k_aload_n X dX2_makeRoom_4 rfl 0 rfl ?_
  refine k_get (v := .ref qs) X 0 2 3 rfl rfl (by decide) fl_X2_21 in_X2 rfl rfl dX2_makeRoom_5 ?_
  refine k_alenI (v := nI N) X 1 rfl rfl dX2_makeRoom_8 ?_
  refine k_icmp_le (tgt := 57) (xi := ((nb : Nat) : Int)) (yi := ((N : Nat) : Int)) X (nI_toInt (by omega)) (nI_toInt (by omega)) dX2_makeRoom_9 (by decide) (fun c_9 => ?_) (fun c_9 => ?_)
  · exact k_vret (u := [(g, .inr (2, [.int (nI bs), .int (nI wd), .int (nI nb), .ref qs, .ref qd, .ref qh, .ref qn])), (qs, .inl (cI, N, .inl sm)), (qd, .inl (cB, (16 * N), .inl dg)), (qn, .inl (cI, N, .inl nx))]) X hr [0, 1, 2, 3] (by decide) rfl rfl (⟨qs, qd, qn, sm, dg, nx, rfl, by rw [rCap, if_pos (by omega)]⟩) (by (try dsimp only); omega) (by (try dsimp only); omega) dX2_makeRoom_57
  · have hc : rCost 2000 N nb = max nb (min 2000 (2 * N)) := by rw [rCost, if_neg (by omega)]
    refine k_aload_n X dX2_makeRoom_12 rfl 0 rfl ?_
    refine k_get (v := .int (nI nb)) X 0 2 2 rfl rfl (by decide) fl_X2_18 in_X2 rfl rfl dX2_makeRoom_13 ?_
    refine k_sipush (v := 2000) X dX2_makeRoom_16 (by decide) ?_
    refine k_iconst (v := 2) X dX2_makeRoom_19 (by decide) ?_
    refine k_aload_n X dX2_makeRoom_20 rfl 0 rfl ?_
    refine k_get (v := .ref qs) X 0 2 3 rfl rfl (by decide) fl_X2_21 in_X2 rfl rfl dX2_makeRoom_21 ?_
    refine k_alenI (v := nI N) X 1 rfl rfl dX2_makeRoom_24 ?_
    refine k_imul X dX2_makeRoom_25 ?_
    refine k_as (y := nI (2 * N)) (n_mul 2 N) ?_
    refine k_mmin X ml_X2_83 sm_Mmin ini_J9 co_Mmin (Nat.le_of_ble_eq_true rfl) (Nat.le_of_ble_eq_true rfl) (by (try dsimp only); omega) (by (try dsimp only); omega) dX2_makeRoom_26 ?_
    refine k_as (y := nI (min 2000 (2 * N))) (mnI (a := 2000) (b := 2 * N) (by omega) (by omega)) ?_
    refine k_mmax X ml_X2_88 sm_Mmax ini_J9 co_Mmax (Nat.le_of_ble_eq_true rfl) (Nat.le_of_ble_eq_true rfl) (by (try dsimp only); omega) (by (try dsimp only); omega) dX2_makeRoom_29 ?_
    refine k_as (y := nI (max nb (min 2000 (2 * N)))) (mxI (by omega) (by omega)) ?_
    refine k_istore_n (lv' := [(1, .int (nI (max nb (min 2000 (2 * N))))), (0, .ref g)]) X dX2_makeRoom_32 rfl (by decide) rfl ?_
    refine k_aload_n X dX2_makeRoom_33 rfl 1 rfl ?_
    refine k_iload_n X dX2_makeRoom_34 rfl 0 rfl ?_
    refine k_newI X (max nb (min 2000 (2 * N))) (rfl) (by omega) ac_int (by (try dsimp only); omega) (by (try dsimp only); omega) dX2_makeRoom_35 (fun q_1 => ?_)
    refine k_ws (ws' := [(g, .inr (2, [.int (nI bs), .int (nI wd), .int (nI nb), .ref qs, .ref qd, .ref qh, .ref qn])), (qs, .inl (cI, N, .inl sm)), (qd, .inl (cB, (16 * N), .inl dg)), (qn, .inl (cI, N, .inl nx)), (q_1, .inl (cI, (max nb (min 2000 (2 * N))), .inl (fun _ => 0)))]) rfl ?_
    refine k_put (v := .ref q_1) (ty := .array .int) (ws' := [(g, .inr (2, [.int (nI bs), .int (nI wd), .int (nI nb), .ref q_1, .ref qd, .ref qh, .ref qn])), (qs, .inl (cI, N, .inl sm)), (qd, .inl (cB, (16 * N), .inl dg)), (qn, .inl (cI, N, .inl nx)), (q_1, .inl (cI, (max nb (min 2000 (2 * N))), .inl (fun _ => 0)))]) X 0 2 3 tyX2 tyX2_ok nmX2 rfl rfl (by decide) fl_X2_21 in_X2 rfl rfl (by decide +kernel) rfl rfl (Nat.le_of_ble_eq_true rfl) rfl dX2_makeRoom_37 ?_
    refine k_aload_n X dX2_makeRoom_40 rfl 1 rfl ?_
    refine k_iload_n X dX2_makeRoom_41 rfl 0 rfl ?_
    refine k_bipush (v := 16) X dX2_makeRoom_42 (by decide) ?_
    refine k_imul X dX2_makeRoom_44 ?_
    refine k_as (y := nI (16 * (max nb (min 2000 (2 * N))))) (n_mulc _ 16) ?_
    refine k_newB X (16 * (max nb (min 2000 (2 * N)))) (rfl) (by omega) ac_byte (by (try dsimp only); omega) (by (try dsimp only); omega) dX2_makeRoom_45 (fun q_2 => ?_)
    refine k_ws (ws' := [(g, .inr (2, [.int (nI bs), .int (nI wd), .int (nI nb), .ref q_1, .ref qd, .ref qh, .ref qn])), (qs, .inl (cI, N, .inl sm)), (qd, .inl (cB, (16 * N), .inl dg)), (qn, .inl (cI, N, .inl nx)), (q_1, .inl (cI, (max nb (min 2000 (2 * N))), .inl (fun _ => 0))), (q_2, .inl (cB, (16 * (max nb (min 2000 (2 * N)))), .inl (fun _ => 0)))]) rfl ?_
    refine k_put (v := .ref q_2) (ty := .array .byte) (ws' := [(g, .inr (2, [.int (nI bs), .int (nI wd), .int (nI nb), .ref q_1, .ref q_2, .ref qh, .ref qn])), (qs, .inl (cI, N, .inl sm)), (qd, .inl (cB, (16 * N), .inl dg)), (qn, .inl (cI, N, .inl nx)), (q_1, .inl (cI, (max nb (min 2000 (2 * N))), .inl (fun _ => 0))), (q_2, .inl (cB, (16 * (max nb (min 2000 (2 * N)))), .inl (fun _ => 0)))]) X 0 2 4 tyX2 tyX2_ok nmX2 rfl rfl (by decide) fl_X2_25 in_X2 rfl rfl (by decide +kernel) rfl rfl (Nat.le_of_ble_eq_true rfl) rfl dX2_makeRoom_47 ?_
    refine k_aload_n X dX2_makeRoom_50 rfl 1 rfl ?_
    refine k_iload_n X dX2_makeRoom_51 rfl 0 rfl ?_
    refine k_newI X (max nb (min 2000 (2 * N))) (rfl) (by omega) ac_int (by (try dsimp only); omega) (by (try dsimp only); omega) dX2_makeRoom_52 (fun q_3 => ?_)
    refine k_ws (ws' := [(g, .inr (2, [.int (nI bs), .int (nI wd), .int (nI nb), .ref q_1, .ref q_2, .ref qh, .ref qn])), (qs, .inl (cI, N, .inl sm)), (qd, .inl (cB, (16 * N), .inl dg)), (qn, .inl (cI, N, .inl nx)), (q_1, .inl (cI, (max nb (min 2000 (2 * N))), .inl (fun _ => 0))), (q_2, .inl (cB, (16 * (max nb (min 2000 (2 * N)))), .inl (fun _ => 0))), (q_3, .inl (cI, (max nb (min 2000 (2 * N))), .inl (fun _ => 0)))]) rfl ?_
    refine k_put (v := .ref q_3) (ty := .array .int) (ws' := [(g, .inr (2, [.int (nI bs), .int (nI wd), .int (nI nb), .ref q_1, .ref q_2, .ref qh, .ref q_3])), (qs, .inl (cI, N, .inl sm)), (qd, .inl (cB, (16 * N), .inl dg)), (qn, .inl (cI, N, .inl nx)), (q_1, .inl (cI, (max nb (min 2000 (2 * N))), .inl (fun _ => 0))), (q_2, .inl (cB, (16 * (max nb (min 2000 (2 * N)))), .inl (fun _ => 0))), (q_3, .inl (cI, (max nb (min 2000 (2 * N))), .inl (fun _ => 0)))]) X 0 2 6 tyX2 tyX2_ok nmX2 rfl rfl (by decide) fl_X2_29 in_X2 rfl rfl (by decide +kernel) rfl rfl (Nat.le_of_ble_eq_true rfl) rfl dX2_makeRoom_54 ?_
    exact k_vret (u := [(g, .inr (2, [.int (nI bs), .int (nI wd), .int (nI nb), .ref q_1, .ref q_2, .ref qh, .ref q_3])), (q_1, .inl (cI, (max nb (min 2000 (2 * N))), .inl (fun _ => 0))), (q_2, .inl (cB, (16 * (max nb (min 2000 (2 * N)))), .inl (fun _ => 0))), (q_3, .inl (cI, (max nb (min 2000 (2 * N))), .inl (fun _ => 0)))]) X hr [0, 4, 5, 6] (by decide) rfl rfl (⟨q_1, q_2, q_3, _, _, _, rfl, by rw [rCap, if_neg (by omega)]⟩) (by (try dsimp only); omega) (by (try dsimp only); omega) dX2_makeRoom_57
set_option maxHeartbeats 4000000 in
set_option maxRecDepth 100000 in
theorem c_Signature (l : Launch) (D : va_G) (cI cB : ClassId) (g : Nat)  : kC l yX2_init cX2_init 1 none 1 23 (4) (544) D cI cB [.ref g] [(g, .inr (2, [.int 0, .int 0, .int 0, .null, .null, .null, .null]))] (fun (vV : Option Value) (uU : va_W) => ∃ (qs : Nat) (qd : Nat) (qn : Nat) (qh : Nat) (hd : Nat → Int32), vV = none ∧ uU = [(g, .inr (2, [.int (nI 16), .int (nI 8), .int (nI 0), .ref qs, .ref qd, .ref qh, .ref qn])), (qs, .inl (cI, 16, .inl (fun _ => 0))), (qd, .inl (cB, (16 * 16), .inl (fun _ => 0))), (qh, .inl (cI, 256, .inl hd)), (qn, .inl (cI, 16, .inl (fun _ => 0)))] ∧ (kChain 0 (fun _ => 0) hd (fun _ => 0))) := by
  refine k_entry (lv0 := [(0, .ref g)]) (by decide) (Nat.le_of_ble_eq_true rfl) rfl ?_
  intro zp ze zs zm zb zt zc zA X hr hin
  refine k_aload_n X dX2_init_0 rfl 0 rfl ?_
  refine k_objInit X ml_X2_3 im_objInit co_objInit (Nat.le_of_ble_eq_true rfl) (Nat.le_of_ble_eq_true rfl) dX2_init_1 ?_
  refine k_aload_n X dX2_init_4 rfl 0 rfl ?_
  refine k_bipush (v := 16) X dX2_init_5 (by decide) ?_
  refine k_put (v := .int 16) (ty := .int) (ws' := [(g, .inr (2, [.int 16, .int 0, .int 0, .null, .null, .null, .null]))]) X 0 2 0 tyX2 tyX2_ok nmX2 rfl rfl (by decide) fl_X2_9 in_X2 rfl rfl (by decide +kernel) rfl rfl (Nat.le_of_ble_eq_true rfl) rfl dX2_init_7 ?_
  refine k_aload_n X dX2_init_10 rfl 0 rfl ?_
  refine k_bipush (v := 8) X dX2_init_11 (by decide) ?_
  refine k_put (v := .int 8) (ty := .int) (ws' := [(g, .inr (2, [.int 16, .int 8, .int 0, .null, .null, .null, .null]))]) X 0 2 1 tyX2 tyX2_ok nmX2 rfl rfl (by decide) fl_X2_15 in_X2 rfl rfl (by decide +kernel) rfl rfl (Nat.le_of_ble_eq_true rfl) rfl dX2_init_13 ?_
  refine k_aload_n X dX2_init_16 rfl 0 rfl ?_
  refine k_iconst (v := 0) X dX2_init_17 (by decide) ?_
  refine k_put (v := .int 0) (ty := .int) (ws' := [(g, .inr (2, [.int 16, .int 8, .int 0, .null, .null, .null, .null]))]) X 0 2 2 tyX2 tyX2_ok nmX2 rfl rfl (by decide) fl_X2_18 in_X2 rfl rfl (by decide +kernel) rfl rfl (Nat.le_of_ble_eq_true rfl) rfl dX2_init_18 ?_
  refine k_aload_n X dX2_init_21 rfl 0 rfl ?_
  refine k_bipush (v := 16) X dX2_init_22 (by decide) ?_
  refine k_newI X 16 (rfl) (by omega) ac_int (by (try dsimp only); omega) (by (try dsimp only); omega) dX2_init_24 (fun q_1 => ?_)
  refine k_ws (ws' := [(g, .inr (2, [.int 16, .int 8, .int 0, .null, .null, .null, .null])), (q_1, .inl (cI, 16, .inl (fun _ => 0)))]) rfl ?_
  refine k_put (v := .ref q_1) (ty := .array .int) (ws' := [(g, .inr (2, [.int 16, .int 8, .int 0, .ref q_1, .null, .null, .null])), (q_1, .inl (cI, 16, .inl (fun _ => 0)))]) X 0 2 3 tyX2 tyX2_ok nmX2 rfl rfl (by decide) fl_X2_21 in_X2 rfl rfl (by decide +kernel) rfl rfl (Nat.le_of_ble_eq_true rfl) rfl dX2_init_26 ?_
  refine k_aload_n X dX2_init_29 rfl 0 rfl ?_
  refine k_sipush (v := 256) X dX2_init_30 (by decide) ?_
  refine k_newB X (16 * 16) (rfl) (by omega) ac_byte (by (try dsimp only); omega) (by (try dsimp only); omega) dX2_init_33 (fun q_2 => ?_)
  refine k_ws (ws' := [(g, .inr (2, [.int 16, .int 8, .int 0, .ref q_1, .null, .null, .null])), (q_1, .inl (cI, 16, .inl (fun _ => 0))), (q_2, .inl (cB, (16 * 16), .inl (fun _ => 0)))]) rfl ?_
  refine k_put (v := .ref q_2) (ty := .array .byte) (ws' := [(g, .inr (2, [.int 16, .int 8, .int 0, .ref q_1, .ref q_2, .null, .null])), (q_1, .inl (cI, 16, .inl (fun _ => 0))), (q_2, .inl (cB, (16 * 16), .inl (fun _ => 0)))]) X 0 2 4 tyX2 tyX2_ok nmX2 rfl rfl (by decide) fl_X2_25 in_X2 rfl rfl (by decide +kernel) rfl rfl (Nat.le_of_ble_eq_true rfl) rfl dX2_init_35 ?_
  refine k_aload_n X dX2_init_38 rfl 0 rfl ?_
  refine k_bipush (v := 16) X dX2_init_39 (by decide) ?_
  refine k_newI X 16 (rfl) (by omega) ac_int (by (try dsimp only); omega) (by (try dsimp only); omega) dX2_init_41 (fun q_3 => ?_)
  refine k_ws (ws' := [(g, .inr (2, [.int 16, .int 8, .int 0, .ref q_1, .ref q_2, .null, .null])), (q_1, .inl (cI, 16, .inl (fun _ => 0))), (q_2, .inl (cB, (16 * 16), .inl (fun _ => 0))), (q_3, .inl (cI, 16, .inl (fun _ => 0)))]) rfl ?_
  refine k_put (v := .ref q_3) (ty := .array .int) (ws' := [(g, .inr (2, [.int 16, .int 8, .int 0, .ref q_1, .ref q_2, .null, .ref q_3])), (q_1, .inl (cI, 16, .inl (fun _ => 0))), (q_2, .inl (cB, (16 * 16), .inl (fun _ => 0))), (q_3, .inl (cI, 16, .inl (fun _ => 0)))]) X 0 2 6 tyX2 tyX2_ok nmX2 rfl rfl (by decide) fl_X2_29 in_X2 rfl rfl (by decide +kernel) rfl rfl (Nat.le_of_ble_eq_true rfl) rfl dX2_init_43 ?_
  refine k_aload_n X dX2_init_46 rfl 0 rfl ?_
  refine k_sipush (v := 256) X dX2_init_47 (by decide) ?_
  refine k_newI X 256 (rfl) (by omega) ac_int (by (try dsimp only); omega) (by (try dsimp only); omega) dX2_init_50 (fun q_4 => ?_)
  refine k_ws (ws' := [(g, .inr (2, [.int 16, .int 8, .int 0, .ref q_1, .ref q_2, .null, .ref q_3])), (q_1, .inl (cI, 16, .inl (fun _ => 0))), (q_2, .inl (cB, (16 * 16), .inl (fun _ => 0))), (q_3, .inl (cI, 16, .inl (fun _ => 0))), (q_4, .inl (cI, 256, .inl (fun _ => 0)))]) rfl ?_
  refine k_putF (v := .ref q_4) (ty := .array .int) (ws' := [(g, .inr (2, [.int 16, .int 8, .int 0, .ref q_1, .ref q_2, .ref q_4, .ref q_3])), (q_1, .inl (cI, 16, .inl (fun _ => 0))), (q_2, .inl (cB, (16 * 16), .inl (fun _ => 0))), (q_3, .inl (cI, 16, .inl (fun _ => 0))), (q_4, .inl (cI, 256, .inl (fun _ => 0)))]) X 0 2 5 tyX2 tyX2_ok nmX2 rfl rfl (by decide) fl_X2_32 in_X2 rfl rfl hin rfl (by decide +kernel) rfl rfl (Nat.le_of_ble_eq_true rfl) rfl dX2_init_52 ?_
  refine k_aload_n X dX2_init_55 rfl 0 rfl ?_
  refine k_get (v := .ref q_4) X 0 2 5 rfl rfl (by decide) fl_X2_32 in_X2 rfl rfl dX2_init_56 ?_
  refine k_iconst (v := -1) X dX2_init_59 (by decide) ?_
  refine k_callS (wc := [(q_4, .inl (cI, 256, .inl (fun _ => 0)))]) (wr := [(g, .inr (2, [.int 16, .int 8, .int 0, .ref q_1, .ref q_2, .ref q_4, .ref q_3])), (q_1, .inl (cI, 16, .inl (fun _ => 0))), (q_2, .inl (cB, (16 * 16), .inl (fun _ => 0))), (q_3, .inl (cI, 16, .inl (fun _ => 0)))]) (As := [.ref q_4, .int (-1)]) (n := 2) (st := []) X (c_fill l D cI cB q_4 256 (fun _ => 0) (-1) (by omega)) ml_X2_35 sm_J7_fill_53178 ini_J7 co_J7_fill_53178 (by decide +kernel) rfl ⟨Nat.le_of_ble_eq_true rfl, Nat.le_of_ble_eq_true rfl⟩ (⟨by (try dsimp only); omega, by (try dsimp only); omega⟩) (Nat.le_of_ble_eq_true rfl) [4] [0, 1, 2, 3] rfl rfl rfl (by decide) (by decide) (by decide) rfl dX2_init_60 (fun v_60 u_60 hu_60 => ?_)
  obtain ⟨hd, rfl, rfl, hhd⟩ := hu_60
  refine k_to (ws' := [(g, .inr (2, [.int 16, .int 8, .int 0, .ref q_1, .ref q_2, .ref q_4, .ref q_3])), (q_1, .inl (cI, 16, .inl (fun _ => 0))), (q_2, .inl (cB, (16 * 16), .inl (fun _ => 0))), (q_3, .inl (cI, 16, .inl (fun _ => 0))), (q_4, .inl (cI, 256, .inl hd))]) (st' := []) rfl rfl ?_
  exact k_vret (u := [(g, .inr (2, [.int 16, .int 8, .int 0, .ref q_1, .ref q_2, .ref q_4, .ref q_3])), (q_1, .inl (cI, 16, .inl (fun _ => 0))), (q_2, .inl (cB, (16 * 16), .inl (fun _ => 0))), (q_4, .inl (cI, 256, .inl hd)), (q_3, .inl (cI, 16, .inl (fun _ => 0)))]) X hr [0, 1, 2, 4, 3] (by decide) rfl rfl (⟨q_1, q_2, q_3, q_4, hd, rfl, rfl, fun c hc => by rw [hhd c hc, cN_ge (Nat.le_refl _)], fun b hb => absurd hb (Nat.not_lt_zero b)⟩) (by (try dsimp only); omega) (by (try dsimp only); omega) dX2_init_63
set_option maxHeartbeats 4000000 in
set_option maxRecDepth 100000 in
theorem c_make (l : Launch) (D : va_G) (cI cB : ClassId) (g : Nat) (qs : Nat) (qd : Nat) (qh : Nat) (qn : Nat) (bs : Nat) (wd : Nat) (nb : Nat) (N : Nat) (sm : Nat → Int32) (dg : Nat → Int32) (hd : Nat → Int32) (nx : Nat → Int32) (r : Nat) (a : Nat) (mo : Nat) (k : Nat) (n : Nat) (f : Nat → Int32) (o : Nat) (aw : Nat) (ah : Nat) (w : Nat → Int32) (h : Nat → Int32) (b2 : Nat) (w2 : Nat) (hN : 16 ≤ N) (hN2 : N ≤ 2000) (hk : k ≤ n) (hn : n ≤ mo) (hmo : mo ≤ 8000) (hk2 : k ≤ 2000) (hb1 : 1 ≤ b2) (hb2 : b2 ≤ 256) (hw2 : w2 ≤ 16) : kC l yX2_make cX2_make 8 none 3 76 (3) (18 * rCost 2000 N (k / b2)) D cI cB [.ref g, .ref r, .int (nI b2), .int (nI w2), .ref o] [(g, .inr (2, [.int (nI bs), .int (nI wd), .int (nI nb), .ref qs, .ref qd, .ref qh, .ref qn])), (qs, .inl (cI, N, .inl sm)), (qd, .inl (cB, (16 * N), .inl dg)), (qh, .inl (cI, 256, .inl hd)), (qn, .inl (cI, N, .inl nx)), (r, .inr (1, [.int (nI mo), .ref a, .int (nI k)])), (a, .inl (cI, n, .inl f)), (o, .inr (0, [.ref aw, .ref ah])), (aw, .inl (cI, 16, .inl w)), (ah, .inl (cI, 4, .inl h))] (fun (vV : Option Value) (uU : va_W) => ∃ (s2 : Nat) (d2 : Nat) (n2 : Nat) (sm2 : Nat → Int32) (dg2 : Nat → Int32) (hd2 : Nat → Int32) (nx2 : Nat → Int32) (wz : Nat → Int32) (hz : Nat → Int32), vV = none ∧ uU = [(g, .inr (2, [.int (nI b2), .int (nI w2), .int (nI (k / b2)), .ref s2, .ref d2, .ref qh, .ref n2])), (s2, .inl (cI, (rCap 2000 N (k / b2)), .inl sm2)), (d2, .inl (cB, (16 * rCap 2000 N (k / b2)), .inl dg2)), (qh, .inl (cI, 256, .inl hd2)), (n2, .inl (cI, (rCap 2000 N (k / b2)), .inl nx2)), (r, .inr (1, [.int (nI mo), .ref a, .int (nI k)])), (a, .inl (cI, n, .inl f)), (o, .inr (0, [.ref aw, .ref ah])), (aw, .inl (cI, 16, .inl wz)), (ah, .inl (cI, 4, .inl hz))] ∧ (kSums f sm2 b2 (k / b2)) ∧ (kDigs f dg2 b2 (k / b2)) ∧ (kChain (k / b2) sm2 hd2 nx2)) := by
  refine k_entry (lv0 := [(0, .ref g), (1, .ref r), (2, .int (nI b2)), (3, .int (nI w2)), (4, .ref o)]) (by decide) (Nat.le_of_ble_eq_true rfl) rfl ?_
  intro zp ze zs zm zb zt zc zA X hr hin
  refine k_iload_n X dX2_make_0 rfl 2 rfl ?_
  refine k_iconst (v := 1) X dX2_make_1 (by decide) ?_
  refine k_icmp_ge (tgt := 6) (xi := ((b2 : Nat) : Int)) (yi := (1 : Int)) X (nI_toInt (by omega)) (by decide) dX2_make_2 (by decide) (fun c_2 => ?_) (fun c_2 => ?_)
  · refine k_aload_n X dX2_make_6 rfl 0 rfl ?_
    refine k_iload_n X dX2_make_7 rfl 2 rfl ?_
    refine k_put (v := .int (nI b2)) (ty := .int) (ws' := [(g, .inr (2, [.int (nI b2), .int (nI wd), .int (nI nb), .ref qs, .ref qd, .ref qh, .ref qn])), (qs, .inl (cI, N, .inl sm)), (qd, .inl (cB, (16 * N), .inl dg)), (qh, .inl (cI, 256, .inl hd)), (qn, .inl (cI, N, .inl nx)), (r, .inr (1, [.int (nI mo), .ref a, .int (nI k)])), (a, .inl (cI, n, .inl f)), (o, .inr (0, [.ref aw, .ref ah])), (aw, .inl (cI, 16, .inl w)), (ah, .inl (cI, 4, .inl h))]) X 0 2 0 tyX2 tyX2_ok nmX2 rfl rfl (by decide) fl_X2_9 in_X2 rfl rfl (by decide +kernel) rfl rfl (Nat.le_of_ble_eq_true rfl) rfl dX2_make_8 ?_
    refine k_aload_n X dX2_make_11 rfl 0 rfl ?_
    refine k_iload_n X dX2_make_12 rfl 3 rfl ?_
    refine k_put (v := .int (nI w2)) (ty := .int) (ws' := [(g, .inr (2, [.int (nI b2), .int (nI w2), .int (nI nb), .ref qs, .ref qd, .ref qh, .ref qn])), (qs, .inl (cI, N, .inl sm)), (qd, .inl (cB, (16 * N), .inl dg)), (qh, .inl (cI, 256, .inl hd)), (qn, .inl (cI, N, .inl nx)), (r, .inr (1, [.int (nI mo), .ref a, .int (nI k)])), (a, .inl (cI, n, .inl f)), (o, .inr (0, [.ref aw, .ref ah])), (aw, .inl (cI, 16, .inl w)), (ah, .inl (cI, 4, .inl h))]) X 0 2 1 tyX2 tyX2_ok nmX2 rfl rfl (by decide) fl_X2_15 in_X2 rfl rfl (by decide +kernel) rfl rfl (Nat.le_of_ble_eq_true rfl) rfl dX2_make_13 ?_
    refine k_aload_n X dX2_make_16 rfl 0 rfl ?_
    refine k_aload_n X dX2_make_17 rfl 1 rfl ?_
    refine k_callV (wc := [(r, .inr (1, [.int (nI mo), .ref a, .int (nI k)]))]) (wr := [(g, .inr (2, [.int (nI b2), .int (nI w2), .int (nI nb), .ref qs, .ref qd, .ref qh, .ref qn])), (qs, .inl (cI, N, .inl sm)), (qd, .inl (cB, (16 * N), .inl dg)), (qh, .inl (cI, 256, .inl hd)), (qn, .inl (cI, N, .inl nx)), (a, .inl (cI, n, .inl f)), (o, .inr (0, [.ref aw, .ref ah])), (aw, .inl (cI, 16, .inl w)), (ah, .inl (cI, 4, .inl h))]) (As := []) (n := 0) (st := [.ref g]) (q0 := 0) X (c_length l D cI cB r a mo k ) rfl rfl ml_X2_45 im_X1_length se_X1_length ini_X1 co_X1_length (by decide +kernel) rfl ⟨Nat.le_of_ble_eq_true rfl, Nat.le_of_ble_eq_true rfl⟩ (⟨by (try dsimp only); omega, by (try dsimp only); omega⟩) (Nat.le_of_ble_eq_true rfl) [5] [0, 1, 2, 3, 4, 6, 7, 8, 9] rfl rfl rfl (by decide) (by decide) (by decide) rfl dX2_make_18 (fun v_18 u_18 hu_18 => ?_)
    obtain ⟨rfl, rfl⟩ := hu_18
    refine k_to (ws' := [(g, .inr (2, [.int (nI b2), .int (nI w2), .int (nI nb), .ref qs, .ref qd, .ref qh, .ref qn])), (qs, .inl (cI, N, .inl sm)), (qd, .inl (cB, (16 * N), .inl dg)), (qh, .inl (cI, 256, .inl hd)), (qn, .inl (cI, N, .inl nx)), (a, .inl (cI, n, .inl f)), (o, .inr (0, [.ref aw, .ref ah])), (aw, .inl (cI, 16, .inl w)), (ah, .inl (cI, 4, .inl h)), (r, .inr (1, [.int (nI mo), .ref a, .int (nI k)]))]) (st' := [.int (nI k), .ref g]) rfl rfl ?_
    refine k_iload_n X dX2_make_21 rfl 2 rfl ?_
    refine k_idiv X dX2_make_22 (nI_ne0 (by omega) (by omega)) ?_
    refine k_as (y := nI (k / b2)) (pk_div (by omega) (by omega) (by omega)) ?_
    refine k_put (v := .int (nI (k / b2))) (ty := .int) (ws' := [(g, .inr (2, [.int (nI b2), .int (nI w2), .int (nI (k / b2)), .ref qs, .ref qd, .ref qh, .ref qn])), (qs, .inl (cI, N, .inl sm)), (qd, .inl (cB, (16 * N), .inl dg)), (qh, .inl (cI, 256, .inl hd)), (qn, .inl (cI, N, .inl nx)), (a, .inl (cI, n, .inl f)), (o, .inr (0, [.ref aw, .ref ah])), (aw, .inl (cI, 16, .inl w)), (ah, .inl (cI, 4, .inl h)), (r, .inr (1, [.int (nI mo), .ref a, .int (nI k)]))]) X 0 2 2 tyX2 tyX2_ok nmX2 rfl rfl (by decide) fl_X2_18 in_X2 rfl rfl (by decide +kernel) rfl rfl (Nat.le_of_ble_eq_true rfl) rfl dX2_make_23 ?_
    have hnb : k / b2 ≤ 2000 := Nat.le_trans (Nat.div_le_self k b2) (by omega)
    refine k_aload_n X dX2_make_26 rfl 0 rfl ?_
    refine k_callV (wc := [(g, .inr (2, [.int (nI b2), .int (nI w2), .int (nI (k / b2)), .ref qs, .ref qd, .ref qh, .ref qn])), (qs, .inl (cI, N, .inl sm)), (qd, .inl (cB, (16 * N), .inl dg)), (qn, .inl (cI, N, .inl nx))]) (wr := [(qh, .inl (cI, 256, .inl hd)), (a, .inl (cI, n, .inl f)), (o, .inr (0, [.ref aw, .ref ah])), (aw, .inl (cI, 16, .inl w)), (ah, .inl (cI, 4, .inl h)), (r, .inr (1, [.int (nI mo), .ref a, .int (nI k)]))]) (As := []) (n := 0) (st := []) (q0 := 0) X (c_makeRoom l D cI cB g qs qd qh qn b2 w2 (k / b2) N sm dg nx (hN) (hN2) (hnb)) rfl rfl ml_X2_51 im_X2_makeRoom se_X2_makeRoom ini_X2 co_X2_makeRoom (by decide +kernel) rfl ⟨Nat.le_of_ble_eq_true rfl, Nat.le_of_ble_eq_true rfl⟩ (⟨by (try dsimp only); omega, by (try dsimp only); omega⟩) (Nat.le_of_ble_eq_true rfl) [0, 1, 2, 4] [3, 5, 6, 7, 8, 9] rfl rfl rfl (by decide) (by decide) (by decide) rfl dX2_make_27 (fun v_27 u_27 hu_27 => ?_)
    obtain ⟨s2, d2, n2, sm3, dg3, nx3, rfl, rfl⟩ := hu_27
    refine k_to (ws' := [(qh, .inl (cI, 256, .inl hd)), (a, .inl (cI, n, .inl f)), (o, .inr (0, [.ref aw, .ref ah])), (aw, .inl (cI, 16, .inl w)), (ah, .inl (cI, 4, .inl h)), (r, .inr (1, [.int (nI mo), .ref a, .int (nI k)])), (g, .inr (2, [.int (nI b2), .int (nI w2), .int (nI (k / b2)), .ref s2, .ref d2, .ref qh, .ref n2])), (s2, .inl (cI, (rCap 2000 N (k / b2)), .inl sm3)), (d2, .inl (cB, (16 * rCap 2000 N (k / b2)), .inl dg3)), (n2, .inl (cI, (rCap 2000 N (k / b2)), .inl nx3))]) (st' := []) rfl rfl ?_
    have hcap : k / b2 ≤ rCap 2000 N (k / b2) ∧ rCap 2000 N (k / b2) ≤ 2000 := by rw [rCap]; split <;> omega
    refine k_iconst (v := 0) X dX2_make_30 (by decide) ?_
    refine k_istore (lv' := [(5, .int 0), (0, .ref g), (1, .ref r), (2, .int (nI b2)), (3, .int (nI w2)), (4, .ref o)]) X dX2_make_31 (by decide) rfl ?_
    refine k_lv (lv' := [(0, .ref g), (1, .ref r), (2, .int (nI b2)), (3, .int (nI w2)), (4, .ref o), (5, .int (nI 0))]) [1, 2, 3, 4, 5, 0] rfl ?_
    refine k_sub (ws' := [(g, .inr (2, [.int (nI b2), .int (nI w2), .int (nI (k / b2)), .ref s2, .ref d2, .ref qh, .ref n2])), (s2, .inl (cI, (rCap 2000 N (k / b2)), .inl sm3)), (d2, .inl (cB, (16 * rCap 2000 N (k / b2)), .inl dg3)), (qh, .inl (cI, 256, .inl hd)), (n2, .inl (cI, (rCap 2000 N (k / b2)), .inl nx3)), (r, .inr (1, [.int (nI mo), .ref a, .int (nI k)])), (a, .inl (cI, n, .inl f)), (o, .inr (0, [.ref aw, .ref ah])), (aw, .inl (cI, 16, .inl w)), (ah, .inl (cI, 4, .inl h))]) [6, 7, 8, 0, 9, 5, 1, 2, 3, 4] (by decide) rfl rfl ?_
    refine k_wide (k := 3) (n := 18 * rCost 2000 N (k / b2)) (by (try dsimp only); omega) (by (try dsimp only); omega) ?_
    refine k_loop5 (pc1 := 33) (cl := fun (b : Nat) (sm1 : Nat → Int32) (dg1 : Nat → Int32) (wx : Nat → Int32) (hx : Nat → Int32) => 3) (sl := fun (b : Nat) (sm1 : Nat → Int32) (dg1 : Nat → Int32) (wx : Nat → Int32) (hx : Nat → Int32) => 18 * rCost 2000 N (k / b2)) (wsf := fun (b : Nat) (sm1 : Nat → Int32) (dg1 : Nat → Int32) (wx : Nat → Int32) (hx : Nat → Int32) => [(g, .inr (2, [.int (nI b2), .int (nI w2), .int (nI (k / b2)), .ref s2, .ref d2, .ref qh, .ref n2])), (s2, .inl (cI, (rCap 2000 N (k / b2)), .inl sm1)), (d2, .inl (cB, (16 * rCap 2000 N (k / b2)), .inl dg1)), (qh, .inl (cI, 256, .inl hd)), (n2, .inl (cI, (rCap 2000 N (k / b2)), .inl nx3)), (r, .inr (1, [.int (nI mo), .ref a, .int (nI k)])), (a, .inl (cI, n, .inl f)), (o, .inr (0, [.ref aw, .ref ah])), (aw, .inl (cI, 16, .inl wx)), (ah, .inl (cI, 4, .inl hx))]) (lvf := fun (b : Nat) (sm1 : Nat → Int32) (dg1 : Nat → Int32) (wx : Nat → Int32) (hx : Nat → Int32) => [(0, .ref g), (1, .ref r), (2, .int (nI b2)), (3, .int (nI w2)), (4, .ref o), (5, .int (nI b))]) (stf := fun (b : Nat) (sm1 : Nat → Int32) (dg1 : Nat → Int32) (wx : Nat → Int32) (hx : Nat → Int32) => []) (I := fun (b : Nat) (sm1 : Nat → Int32) (dg1 : Nat → Int32) (wx : Nat → Int32) (hx : Nat → Int32) => b ≤ k / b2 ∧ kSums f sm1 b2 b ∧ kDigs f dg1 b2 b) (mu := fun (b : Nat) (sm1 : Nat → Int32) (dg1 : Nat → Int32) (wx : Nat → Int32) (hx : Nat → Int32) => k / b2 - b) ?_ 0 sm3 dg3 w h (⟨Nat.zero_le _, fun b hb => absurd hb (Nat.not_lt_zero b), fun b hb => absurd hb (Nat.not_lt_zero b)⟩)
    intro b sm1 dg1 wx hx hI ih
    try dsimp only at hI ih
    try dsimp only
    have hi := hI.1
    refine k_iload X dX2_make_33 5 rfl ?_
    refine k_aload_n X dX2_make_35 rfl 0 rfl ?_
    refine k_get (v := .int (nI (k / b2))) X 0 2 2 rfl rfl (by decide) fl_X2_18 in_X2 rfl rfl dX2_make_36 ?_
    refine k_icmp_ge (tgt := 123) (xi := ((b : Nat) : Int)) (yi := (((k / b2) : Nat) : Int)) X (nI_toInt (by omega)) (nI_toInt (by omega)) dX2_make_39 (by decide) (fun c_39 => ?_) (fun c_39 => ?_)
    · refine k_aload_n X dX2_make_123 rfl 0 rfl ?_
      refine k_callV (wc := [(g, .inr (2, [.int (nI b2), .int (nI w2), .int (nI (k / b2)), .ref s2, .ref d2, .ref qh, .ref n2])), (s2, .inl (cI, (rCap 2000 N (k / b2)), .inl sm1)), (qh, .inl (cI, 256, .inl hd)), (n2, .inl (cI, (rCap 2000 N (k / b2)), .inl nx3))]) (wr := [(d2, .inl (cB, (16 * rCap 2000 N (k / b2)), .inl dg1)), (r, .inr (1, [.int (nI mo), .ref a, .int (nI k)])), (a, .inl (cI, n, .inl f)), (o, .inr (0, [.ref aw, .ref ah])), (aw, .inl (cI, 16, .inl wx)), (ah, .inl (cI, 4, .inl hx))]) (As := []) (n := 0) (st := []) (q0 := 0) X (c_chainBlocks l D cI cB g s2 d2 qh n2 b2 w2 (k / b2) (rCap 2000 N (k / b2)) sm1 hd nx3 (by omega) (by omega)) rfl rfl ml_X2_68 im_X2_chainBlocks se_X2_chainBlocks ini_X2 co_X2_chainBlocks (by decide +kernel) rfl ⟨Nat.le_of_ble_eq_true rfl, Nat.le_of_ble_eq_true rfl⟩ (⟨by (try dsimp only); omega, by (try dsimp only); omega⟩) (Nat.le_of_ble_eq_true rfl) [0, 1, 3, 4] [2, 5, 6, 7, 8, 9] rfl rfl rfl (by decide) (by decide) (by decide) rfl dX2_make_124 (fun v_124 u_124 hu_124 => ?_)
      obtain ⟨hd2, nx2, rfl, rfl, hch2⟩ := hu_124
      refine k_to (ws' := [(d2, .inl (cB, (16 * rCap 2000 N (k / b2)), .inl dg1)), (r, .inr (1, [.int (nI mo), .ref a, .int (nI k)])), (a, .inl (cI, n, .inl f)), (o, .inr (0, [.ref aw, .ref ah])), (aw, .inl (cI, 16, .inl wx)), (ah, .inl (cI, 4, .inl hx)), (g, .inr (2, [.int (nI b2), .int (nI w2), .int (nI (k / b2)), .ref s2, .ref d2, .ref qh, .ref n2])), (s2, .inl (cI, (rCap 2000 N (k / b2)), .inl sm1)), (qh, .inl (cI, 256, .inl hd2)), (n2, .inl (cI, (rCap 2000 N (k / b2)), .inl nx2))]) (st' := []) rfl rfl ?_
      exact k_vret (u := [(g, .inr (2, [.int (nI b2), .int (nI w2), .int (nI (k / b2)), .ref s2, .ref d2, .ref qh, .ref n2])), (s2, .inl (cI, (rCap 2000 N (k / b2)), .inl sm1)), (d2, .inl (cB, (16 * rCap 2000 N (k / b2)), .inl dg1)), (qh, .inl (cI, 256, .inl hd2)), (n2, .inl (cI, (rCap 2000 N (k / b2)), .inl nx2)), (r, .inr (1, [.int (nI mo), .ref a, .int (nI k)])), (a, .inl (cI, n, .inl f)), (o, .inr (0, [.ref aw, .ref ah])), (aw, .inl (cI, 16, .inl wx)), (ah, .inl (cI, 4, .inl hx))]) X hr [6, 7, 0, 8, 9, 1, 2, 3, 4, 5] (by decide) rfl rfl (⟨s2, d2, n2, sm1, dg1, hd2, nx2, wx, hx, rfl, rfl, fun c hc => hI.2.1 c (by omega), fun c hc => hI.2.2 c (by omega), hch2⟩) (by (try dsimp only); omega) (by (try dsimp only); omega) dX2_make_127
    · refine k_iload X dX2_make_42 5 rfl ?_
      refine k_aload_n X dX2_make_44 rfl 0 rfl ?_
      refine k_get (v := .int (nI b2)) X 0 2 0 rfl rfl (by decide) fl_X2_9 in_X2 rfl rfl dX2_make_45 ?_
      refine k_imul X dX2_make_48 ?_
      refine k_as (y := nI (b2 * b)) (by rw [Nat.mul_comm]; exact n_mul b b2) ?_
      refine k_istore (lv' := [(6, .int (nI (b2 * b))), (0, .ref g), (1, .ref r), (2, .int (nI b2)), (3, .int (nI w2)), (4, .ref o), (5, .int (nI b))]) X dX2_make_49 (by decide) rfl ?_
      have hfit := blk_fit (k := k) (bs := b2) (b := b) (by omega)
      refine k_aload_n X dX2_make_51 rfl 1 rfl ?_
      refine k_get (v := .ref s2) X 0 2 3 rfl rfl (by decide) fl_X2_21 in_X2 rfl rfl dX2_make_52 ?_
      refine k_iload X dX2_make_55 6 rfl ?_
      refine k_aload_n X dX2_make_57 rfl 2 rfl ?_
      refine k_iload X dX2_make_58 0 rfl ?_
      refine k_aload_n X dX2_make_60 rfl 1 rfl ?_
      refine k_get (v := .int (nI b2)) X 0 2 0 rfl rfl (by decide) fl_X2_9 in_X2 rfl rfl dX2_make_61 ?_
      refine k_callV (wc := [(r, .inr (1, [.int (nI mo), .ref a, .int (nI k)])), (a, .inl (cI, n, .inl f))]) (wr := [(g, .inr (2, [.int (nI b2), .int (nI w2), .int (nI (k / b2)), .ref s2, .ref d2, .ref qh, .ref n2])), (s2, .inl (cI, (rCap 2000 N (k / b2)), .inl sm1)), (d2, .inl (cB, (16 * rCap 2000 N (k / b2)), .inl dg1)), (qh, .inl (cI, 256, .inl hd)), (n2, .inl (cI, (rCap 2000 N (k / b2)), .inl nx3)), (o, .inr (0, [.ref aw, .ref ah])), (aw, .inl (cI, 16, .inl wx)), (ah, .inl (cI, 4, .inl hx))]) (As := [.int (nI (b2 * b)), .int (nI b2)]) (n := 2) (st := [.int (nI b), .ref s2]) (q0 := 0) X (c_sumFrom l D cI cB r a mo k n f (b2 * b) b2 (hk) (hn) (hmo) (hfit)) rfl rfl ml_X2_54 im_X1_sumFrom se_X1_sumFrom ini_X1 co_X1_sumFrom (by decide +kernel) rfl ⟨Nat.le_of_ble_eq_true rfl, Nat.le_of_ble_eq_true rfl⟩ (⟨by (try dsimp only); omega, by (try dsimp only); omega⟩) (Nat.le_of_ble_eq_true rfl) [5, 6] [0, 1, 2, 3, 4, 7, 8, 9] rfl rfl rfl (by decide) (by decide) (by decide) rfl dX2_make_64 (fun v_64 u_64 hu_64 => ?_)
      obtain ⟨rfl, rfl⟩ := hu_64
      refine k_to (ws' := [(g, .inr (2, [.int (nI b2), .int (nI w2), .int (nI (k / b2)), .ref s2, .ref d2, .ref qh, .ref n2])), (s2, .inl (cI, (rCap 2000 N (k / b2)), .inl sm1)), (d2, .inl (cB, (16 * rCap 2000 N (k / b2)), .inl dg1)), (qh, .inl (cI, 256, .inl hd)), (n2, .inl (cI, (rCap 2000 N (k / b2)), .inl nx3)), (o, .inr (0, [.ref aw, .ref ah])), (aw, .inl (cI, 16, .inl wx)), (ah, .inl (cI, 4, .inl hx)), (r, .inr (1, [.int (nI mo), .ref a, .int (nI k)])), (a, .inl (cI, n, .inl f))]) (st' := [.int (sSum f (b2 * b) b2), .int (nI b), .ref s2]) rfl rfl ?_
      refine k_iast (f' := upd sm1 b (sSum f (b2 * b) b2)) (ws' := [(g, .inr (2, [.int (nI b2), .int (nI w2), .int (nI (k / b2)), .ref s2, .ref d2, .ref qh, .ref n2])), (s2, .inl (cI, (rCap 2000 N (k / b2)), .inl (upd sm1 b (sSum f (b2 * b) b2)))), (d2, .inl (cB, (16 * rCap 2000 N (k / b2)), .inl dg1)), (qh, .inl (cI, 256, .inl hd)), (n2, .inl (cI, (rCap 2000 N (k / b2)), .inl nx3)), (o, .inr (0, [.ref aw, .ref ah])), (aw, .inl (cI, 16, .inl wx)), (ah, .inl (cI, 4, .inl hx)), (r, .inr (1, [.int (nI mo), .ref a, .int (nI k)])), (a, .inl (cI, n, .inl f))]) X 1 rfl (vp_in_nI (n := b) (by omega) (by omega)) (by rw [nI_clamp (n := b) (by omega)]) rfl dX2_make_67 ?_
      refine k_aload X dX2_make_68 5 rfl ?_
      refine k_aload_n X dX2_make_70 rfl 2 rfl ?_
      refine k_iload X dX2_make_71 0 rfl ?_
      refine k_aload_n X dX2_make_73 rfl 1 rfl ?_
      refine k_get (v := .int (nI b2)) X 0 2 0 rfl rfl (by decide) fl_X2_9 in_X2 rfl rfl dX2_make_74 ?_
      refine k_callV (wc := [(o, .inr (0, [.ref aw, .ref ah])), (aw, .inl (cI, 16, .inl wx)), (ah, .inl (cI, 4, .inl hx)), (r, .inr (1, [.int (nI mo), .ref a, .int (nI k)])), (a, .inl (cI, n, .inl f))]) (wr := [(g, .inr (2, [.int (nI b2), .int (nI w2), .int (nI (k / b2)), .ref s2, .ref d2, .ref qh, .ref n2])), (s2, .inl (cI, (rCap 2000 N (k / b2)), .inl (upd sm1 b (sSum f (b2 * b) b2)))), (d2, .inl (cB, (16 * rCap 2000 N (k / b2)), .inl dg1)), (qh, .inl (cI, 256, .inl hd)), (n2, .inl (cI, (rCap 2000 N (k / b2)), .inl nx3))]) (As := [.ref r, .int (nI (b2 * b)), .int (nI b2)]) (n := 3) (st := []) (q0 := 0) X (c_take l D cI cB o aw ah wx hx r a mo k n f (b2 * b) b2 (hk) (hn) (hmo) (hfit) (by omega)) rfl rfl ml_X2_58 im_X0_take se_X0_take ini_X0 co_X0_take (by decide +kernel) rfl ⟨Nat.le_of_ble_eq_true rfl, Nat.le_of_ble_eq_true rfl⟩ (⟨by (try dsimp only); omega, by (try dsimp only); omega⟩) (Nat.le_of_ble_eq_true rfl) [5, 6, 7, 8, 9] [0, 1, 2, 3, 4] rfl rfl rfl (by decide) (by decide) (by decide) rfl dX2_make_77 (fun v_77 u_77 hu_77 => ?_)
      obtain ⟨w3, h3, rfl, rfl, hh3⟩ := hu_77
      refine k_to (ws' := [(g, .inr (2, [.int (nI b2), .int (nI w2), .int (nI (k / b2)), .ref s2, .ref d2, .ref qh, .ref n2])), (s2, .inl (cI, (rCap 2000 N (k / b2)), .inl (upd sm1 b (sSum f (b2 * b) b2)))), (d2, .inl (cB, (16 * rCap 2000 N (k / b2)), .inl dg1)), (qh, .inl (cI, 256, .inl hd)), (n2, .inl (cI, (rCap 2000 N (k / b2)), .inl nx3)), (o, .inr (0, [.ref aw, .ref ah])), (aw, .inl (cI, 16, .inl w3)), (ah, .inl (cI, 4, .inl h3)), (r, .inr (1, [.int (nI mo), .ref a, .int (nI k)])), (a, .inl (cI, n, .inl f))]) (st' := []) rfl rfl ?_
      refine k_iconst (v := 0) X dX2_make_80 (by decide) ?_
      refine k_istore (lv' := [(7, .int 0), (6, .int (nI (b2 * b))), (0, .ref g), (1, .ref r), (2, .int (nI b2)), (3, .int (nI w2)), (4, .ref o), (5, .int (nI b))]) X dX2_make_81 (by decide) rfl ?_
      refine k_lv (lv' := [(0, .ref g), (1, .ref r), (2, .int (nI b2)), (3, .int (nI w2)), (4, .ref o), (5, .int (nI b)), (7, .int (nI 0))]) [2, 3, 4, 5, 6, 7, 0] rfl ?_
      refine k_sub (ws' := [(g, .inr (2, [.int (nI b2), .int (nI w2), .int (nI (k / b2)), .ref s2, .ref d2, .ref qh, .ref n2])), (s2, .inl (cI, (rCap 2000 N (k / b2)), .inl (upd sm1 b (sSum f (b2 * b) b2)))), (d2, .inl (cB, (16 * rCap 2000 N (k / b2)), .inl dg1)), (qh, .inl (cI, 256, .inl hd)), (n2, .inl (cI, (rCap 2000 N (k / b2)), .inl nx3)), (r, .inr (1, [.int (nI mo), .ref a, .int (nI k)])), (a, .inl (cI, n, .inl f)), (o, .inr (0, [.ref aw, .ref ah])), (aw, .inl (cI, 16, .inl w3)), (ah, .inl (cI, 4, .inl h3))]) [0, 1, 2, 3, 4, 8, 9, 5, 6, 7] (by decide) rfl rfl ?_
      refine k_wide (k := 3) (n := 18 * rCost 2000 N (k / b2)) (by (try dsimp only); omega) (by (try dsimp only); omega) ?_
      refine k_loop2 (pc1 := 83) (cl := fun (kk : Nat) (dgk : Nat → Int32) => 3) (sl := fun (kk : Nat) (dgk : Nat → Int32) => 18 * rCost 2000 N (k / b2)) (wsf := fun (kk : Nat) (dgk : Nat → Int32) => [(g, .inr (2, [.int (nI b2), .int (nI w2), .int (nI (k / b2)), .ref s2, .ref d2, .ref qh, .ref n2])), (s2, .inl (cI, (rCap 2000 N (k / b2)), .inl (upd sm1 b (sSum f (b2 * b) b2)))), (d2, .inl (cB, (16 * rCap 2000 N (k / b2)), .inl dgk)), (qh, .inl (cI, 256, .inl hd)), (n2, .inl (cI, (rCap 2000 N (k / b2)), .inl nx3)), (r, .inr (1, [.int (nI mo), .ref a, .int (nI k)])), (a, .inl (cI, n, .inl f)), (o, .inr (0, [.ref aw, .ref ah])), (aw, .inl (cI, 16, .inl w3)), (ah, .inl (cI, 4, .inl h3))]) (lvf := fun (kk : Nat) (dgk : Nat → Int32) => [(0, .ref g), (1, .ref r), (2, .int (nI b2)), (3, .int (nI w2)), (4, .ref o), (5, .int (nI b)), (7, .int (nI kk))]) (stf := fun (kk : Nat) (dgk : Nat → Int32) => []) (I := fun (kk : Nat) (dgk : Nat → Int32) => kk ≤ 16 ∧ kDigs f dgk b2 b ∧ ∀ j, j < kk → dgk (16 * b + j) = sx (dByte (mDig f (b2 * b) b2) j)) (mu := fun (kk : Nat) (dgk : Nat → Int32) => 16 - kk) ?_ 0 dg1 (⟨Nat.zero_le _, hI.2.2, fun j hj => absurd hj (Nat.not_lt_zero j)⟩)
      intro kk dgk hJ jh
      try dsimp only at hJ jh
      try dsimp only
      have hjk := hJ.1
      refine k_iload X dX2_make_83 6 rfl ?_
      refine k_bipush (v := 16) X dX2_make_85 (by decide) ?_
      refine k_icmp_ge (tgt := 117) (xi := ((kk : Nat) : Int)) (yi := (16 : Int)) X (nI_toInt (by omega)) (by decide) dX2_make_87 (by decide) (fun c_87 => ?_) (fun c_87 => ?_)
      · refine k_iinc (v := nI (b + 1)) (lv' := [(5, .int (nI (b + 1))), (0, .ref g), (1, .ref r), (2, .int (nI b2)), (3, .int (nI w2)), (4, .ref o), (7, .int (nI kk))]) X dX2_make_117 5 rfl (nI_1 _) (by decide) rfl ?_
        refine k_goto (tgt := 33) X dX2_make_120 (by decide) ?_
        refine k_lv (lv' := [(0, .ref g), (1, .ref r), (2, .int (nI b2)), (3, .int (nI w2)), (4, .ref o), (5, .int (nI (b + 1)))]) [1, 2, 3, 4, 5, 0] rfl ?_
        refine k_sub (ws' := [(g, .inr (2, [.int (nI b2), .int (nI w2), .int (nI (k / b2)), .ref s2, .ref d2, .ref qh, .ref n2])), (s2, .inl (cI, (rCap 2000 N (k / b2)), .inl (upd sm1 b (sSum f (b2 * b) b2)))), (d2, .inl (cB, (16 * rCap 2000 N (k / b2)), .inl dgk)), (qh, .inl (cI, 256, .inl hd)), (n2, .inl (cI, (rCap 2000 N (k / b2)), .inl nx3)), (r, .inr (1, [.int (nI mo), .ref a, .int (nI k)])), (a, .inl (cI, n, .inl f)), (o, .inr (0, [.ref aw, .ref ah])), (aw, .inl (cI, 16, .inl w3)), (ah, .inl (cI, 4, .inl h3))]) [0, 1, 2, 3, 4, 5, 6, 7, 8, 9] (by decide) rfl rfl ?_
        refine k_wide (k := 3) (n := 18 * rCost 2000 N (k / b2)) (by (try dsimp only); omega) (by (try dsimp only); omega) ?_
        exact ih (b + 1) (upd sm1 b (sSum f (b2 * b) b2)) dgk w3 h3 (⟨by omega, lt_s (fun c hc => by rw [pk_un (by omega)]; exact hI.2.1 c hc) pk_us, lt_s hJ.2.1 (fun j hj => hJ.2.2 j (by omega))⟩) (by omega)
      · refine k_aload_n X dX2_make_90 rfl 0 rfl ?_
        refine k_get (v := .ref d2) X 0 2 4 rfl rfl (by decide) fl_X2_25 in_X2 rfl rfl dX2_make_91 ?_
        refine k_iload X dX2_make_94 5 rfl ?_
        refine k_bipush (v := 16) X dX2_make_96 (by decide) ?_
        refine k_imul X dX2_make_98 ?_
        refine k_as (y := nI (16 * b)) (by rw [Nat.mul_comm]; exact n_mul b 16) ?_
        refine k_iload X dX2_make_99 6 rfl ?_
        refine k_iadd X dX2_make_101 ?_
        refine k_as (y := nI (16 * b + kk)) (nI_add _ _) ?_
        refine k_aload X dX2_make_102 4 rfl ?_
        refine k_iload X dX2_make_104 6 rfl ?_
        refine k_callV (wc := [(o, .inr (0, [.ref aw, .ref ah])), (ah, .inl (cI, 4, .inl h3))]) (wr := [(g, .inr (2, [.int (nI b2), .int (nI w2), .int (nI (k / b2)), .ref s2, .ref d2, .ref qh, .ref n2])), (s2, .inl (cI, (rCap 2000 N (k / b2)), .inl (upd sm1 b (sSum f (b2 * b) b2)))), (d2, .inl (cB, (16 * rCap 2000 N (k / b2)), .inl dgk)), (qh, .inl (cI, 256, .inl hd)), (n2, .inl (cI, (rCap 2000 N (k / b2)), .inl nx3)), (r, .inr (1, [.int (nI mo), .ref a, .int (nI k)])), (a, .inl (cI, n, .inl f)), (aw, .inl (cI, 16, .inl w3))]) (As := [.int (nI kk)]) (n := 1) (st := [.int (nI (16 * b + kk)), .ref d2]) (q0 := 0) X (c_digestByte l D cI cB o aw ah h3 kk (by omega)) rfl rfl ml_X2_64 im_X0_digestByte se_X0_digestByte ini_X0 co_X0_digestByte (by decide +kernel) rfl ⟨Nat.le_of_ble_eq_true rfl, Nat.le_of_ble_eq_true rfl⟩ (⟨by (try dsimp only); omega, by (try dsimp only); omega⟩) (Nat.le_of_ble_eq_true rfl) [7, 9] [0, 1, 2, 3, 4, 5, 6, 8] rfl rfl rfl (by decide) (by decide) (by decide) rfl dX2_make_106 (fun v_106 u_106 hu_106 => ?_)
        obtain ⟨rfl, rfl⟩ := hu_106
        refine k_to (ws' := [(g, .inr (2, [.int (nI b2), .int (nI w2), .int (nI (k / b2)), .ref s2, .ref d2, .ref qh, .ref n2])), (s2, .inl (cI, (rCap 2000 N (k / b2)), .inl (upd sm1 b (sSum f (b2 * b) b2)))), (d2, .inl (cB, (16 * rCap 2000 N (k / b2)), .inl dgk)), (qh, .inl (cI, 256, .inl hd)), (n2, .inl (cI, (rCap 2000 N (k / b2)), .inl nx3)), (r, .inr (1, [.int (nI mo), .ref a, .int (nI k)])), (a, .inl (cI, n, .inl f)), (aw, .inl (cI, 16, .inl w3)), (o, .inr (0, [.ref aw, .ref ah])), (ah, .inl (cI, 4, .inl h3))]) (st' := [.int (dByte h3 kk), .int (nI (16 * b + kk)), .ref d2]) rfl rfl ?_
        refine k_i2b (v := (dByte h3 kk).toInt8.toInt32) X dX2_make_109 rfl ?_
        refine k_bast (f' := upd dgk (16 * b + kk) (vp_nar .byte ((dByte h3 kk).toInt8.toInt32))) (ws' := [(g, .inr (2, [.int (nI b2), .int (nI w2), .int (nI (k / b2)), .ref s2, .ref d2, .ref qh, .ref n2])), (s2, .inl (cI, (rCap 2000 N (k / b2)), .inl (upd sm1 b (sSum f (b2 * b) b2)))), (d2, .inl (cB, (16 * rCap 2000 N (k / b2)), .inl (upd dgk (16 * b + kk) (vp_nar .byte ((dByte h3 kk).toInt8.toInt32))))), (qh, .inl (cI, 256, .inl hd)), (n2, .inl (cI, (rCap 2000 N (k / b2)), .inl nx3)), (r, .inr (1, [.int (nI mo), .ref a, .int (nI k)])), (a, .inl (cI, n, .inl f)), (aw, .inl (cI, 16, .inl w3)), (o, .inr (0, [.ref aw, .ref ah])), (ah, .inl (cI, 4, .inl h3))]) X 2 rfl (vp_in_nI (n := 16 * b + kk) (by omega) (by omega)) (by rw [nI_clamp (n := 16 * b + kk) (by omega)]) rfl dX2_make_110 ?_
        refine k_iinc (v := nI (kk + 1)) (lv' := [(7, .int (nI (kk + 1))), (0, .ref g), (1, .ref r), (2, .int (nI b2)), (3, .int (nI w2)), (4, .ref o), (5, .int (nI b))]) X dX2_make_111 6 rfl (nI_1 _) (by decide) rfl ?_
        refine k_goto (tgt := 83) X dX2_make_114 (by decide) ?_
        refine k_lv (lv' := [(0, .ref g), (1, .ref r), (2, .int (nI b2)), (3, .int (nI w2)), (4, .ref o), (5, .int (nI b)), (7, .int (nI (kk + 1)))]) [1, 2, 3, 4, 5, 6, 0] rfl ?_
        refine k_sub (ws' := [(g, .inr (2, [.int (nI b2), .int (nI w2), .int (nI (k / b2)), .ref s2, .ref d2, .ref qh, .ref n2])), (s2, .inl (cI, (rCap 2000 N (k / b2)), .inl (upd sm1 b (sSum f (b2 * b) b2)))), (d2, .inl (cB, (16 * rCap 2000 N (k / b2)), .inl (upd dgk (16 * b + kk) (vp_nar .byte (dByte h3 kk).toInt8.toInt32)))), (qh, .inl (cI, 256, .inl hd)), (n2, .inl (cI, (rCap 2000 N (k / b2)), .inl nx3)), (r, .inr (1, [.int (nI mo), .ref a, .int (nI k)])), (a, .inl (cI, n, .inl f)), (o, .inr (0, [.ref aw, .ref ah])), (aw, .inl (cI, 16, .inl w3)), (ah, .inl (cI, 4, .inl h3))]) [0, 1, 2, 3, 4, 5, 6, 8, 7, 9] (by decide) rfl rfl ?_
        refine k_wide (k := 3) (n := 18 * rCost 2000 N (k / b2)) (by (try dsimp only); omega) (by (try dsimp only); omega) ?_
        exact jh (kk + 1) (upd dgk (16 * b + kk) (vp_nar .byte (dByte h3 kk).toInt8.toInt32)) (⟨by omega, digs_step hJ.2.1 hJ.2.2 (by omega) (by rw [pk_vb, dByte_congr hh3 (by omega)]; rfl)⟩) (by omega)
  · exact absurd c_2 (by omega)
