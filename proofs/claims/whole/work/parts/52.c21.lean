/-! ===== the face, 3: work, rescan ===== -/
theorem Rd.fr {I I' : DI} {J J' : DJ} {j : Nat} (h : Rd I J j I' J') (hj : j < 16) : (∀ b, b < 25 ∨ 76 ≤ b → I' b = I b) ∧ (∀ b, b < 29 ∨ 76 ≤ b → J' b = J b) ∧ I' 27 = (u2 I 27 j 1) 27 := by
  obtain ⟨m, h1, h2, I1, ⟨t1, t2, t3, t4⟩, rfl⟩ := h
  exact ⟨fun b hb => by rw [u2_o (by omega), u2_o (by omega), t3 b (by omega) (by omega)], fun b hb => t4 b (by omega), by rw [u2_o (by decide), u2_row, u2_row, t3 27 (by omega) (by omega)]⟩
theorem Fl.fr {I I' : DI} {J J' : DJ} {k : Int32} {j : Nat} (h : Fl I J k j I' J') (hj : j < 16) : (∀ b, b < 25 ∨ 76 ≤ b → I' b = I b) ∧ ∀ b, b < 29 ∨ 76 ≤ b → J' b = J b := by
  rcases h with ⟨_, rfl, rfl⟩ | ⟨_, h⟩
  · exact ⟨fun b hb => u2_o (by omega), fun _ _ => rfl⟩
  · exact ⟨(h.fr hj).1, (h.fr hj).2.1⟩
def WkC (I0 : DI) (J0 : DJ) (m : Nat) : Nat → DI → DJ → Prop
  | 0, I, J => I = I0 ∧ J = J0
  | t + 1, I, J => ∃ I1 J1 I2 j, WkC I0 J0 m t I1 J1 ∧ I1 24 0 = nI j ∧ j < 16 ∧ Fl I1 J1 (I1 23 0) j I2 J ∧ Dq I2 0 (m - (t + 1)) I
theorem WkC.inv {I0 : DI} {J0 : DJ} {m : Nat} (h2 : I0 22 2 = nI m) : ∀ (t : Nat) (I : DI) (J : DJ), t ≤ m → WkC I0 J0 m t I J → I 22 2 = nI (m - t) ∧ (∀ i, i < m - t → I 23 i = I0 23 (i + t) ∧ I 24 i = I0 24 (i + t)) ∧ (∀ i, i ≠ 2 → I 22 i = I0 22 i) ∧ (∀ b, b < 22 ∨ 76 ≤ b → I b = I0 b) ∧ ∀ b, b < 29 ∨ 76 ≤ b → J b = J0 b := by
  intro t
  induction t with
  | zero => rintro I J _ ⟨rfl, rfl⟩; exact ⟨h2, fun _ _ => ⟨rfl, rfl⟩, fun _ _ => rfl, fun _ _ => rfl, fun _ _ => rfl⟩
  | succ t ih =>
    rintro I J ht ⟨I1, J1, I2, j, w1, w2, w3, w4, w5⟩
    obtain ⟨g1, g2, g3, g4, g5⟩ := ih I1 J1 (by omega) w1
    obtain ⟨f1, f2⟩ := w4.fr w3
    obtain ⟨d1, d2, d3, d4, d5⟩ := w5
    refine ⟨d1, fun i hi => ?_, fun i hi => by rw [d2 i hi, f1 22 (by omega), g3 i hi], fun b hb => by rw [d5 b (by omega) (by omega) (by omega), f1 b (by omega), g4 b hb], fun b hb => by rw [f2 b hb, g5 b hb]⟩
    rw [d3, d4, f1 23 (by omega), f1 24 (by omega)]
    have := g2 (i + 1) (by omega)
    simp only [shf, if_pos (show 0 ≤ i ∧ i < m - (t + 1) from ⟨Nat.zero_le _, hi⟩)]
    rw [this.1, this.2, show i + 1 + t = i + (t + 1) by omega]
    exact ⟨rfl, rfl⟩
def WkQ (I : DI) (J : DJ) (m : Nat) (n : Int32) (r : Int32 ⊕ Nat) (I' : DI) (J' : DJ) : Prop :=
  ((n < 1 ∨ 8 < n) ∧ r = .inr 9 ∧ I' = I ∧ J' = J) ∨
  (∃ k, n = nI k ∧ 1 ≤ k ∧ k ≤ 8 ∧ ((¬ I 22 3 = 0 ∧ r = .inr 10 ∧ I' = I ∧ J' = J) ∨ (I 22 3 = 0 ∧ r = .inl (nI (min k m)) ∧ WkC I J m (min k m) I' J')))
theorem nI_min {a b : Nat} (ha : a < 1000) (hb : b < 1000) : (if nI b < nI a then nI b else nI a) = nI (min a b) := by
  by_cases h : b < a
  · rw [if_pos (nI_lt h (by omega)), Nat.min_eq_right (by omega)]
  · rw [if_neg (Int32.not_lt.mpr (nI_le (by omega) (by omega))), Nat.min_eq_left (by omega)]
set_option maxHeartbeats 4000000 in
set_option maxRecDepth 100000 in
theorem lp_Fi_work {C : CT} {l : Launch} {S : ShT} {d : Nat} (hC : OKC C l) (hS : SHP S) (hd : 6 ≤ d) {I0 : DI} {J0 : DJ} {n : Int32} {m k : Nat} (hm : m ≤ 8) (h2 : I0 22 2 = nI m) (hL : ∀ i, i < 16 → ∃ q, q ≤ 60 ∧ I0 21 i = nI q) (hQ : ∀ i, i < m → ∃ j, j < 16 ∧ I0 24 i = nI j) (en : n = nI k) (hk1 : 1 ≤ k) (hk8 : k ≤ 8) (hl0 : I0 22 3 = 0) : ∀ (n0 : Nat) (t : Nat) (I : DI) (J : DJ) (x : Int32), x = nI t → t ≤ min k m → min k m < t + n0 → WkC I0 J0 m t I J → V C l k_Fi_work (d, 1, 6) (FP S (WkQ I0 J0 m n)) 51 [(3, .int x), (2, .int (nI (min k m))), (0, .ref 0), (1, .int n)] [] S I J (0, 0) := by
  intro n0
  induction n0 with
  | zero =>
    intro t I J x ex ht0 hf hw
    omega
  | succ n0 ih =>
    intro t I J x ex ht0 hf hw
    obtain ⟨g1, g2, g3, g4, g5⟩ := WkC.inv h2 t I J (by omega) hw
    refine v_iload_n 0 d_Fi_work_51 rfl rfl rfl ?_
    refine v_iload_n 1 d_Fi_work_52 rfl rfl rfl ?_
    refine v_icmp_ge (tgt := 90) d_Fi_work_53 (by decide) rfl (fun c1 => ?_) (fun c1 => ?_)
    · refine v_iload_n 1 d_Fi_work_90 rfl rfl rfl ?_
      refine v_iret d_Fi_work_91 rfl ?_
      have htw : min k m ≤ t := by rcases Nat.lt_or_ge (t) (min k m) with h9 | h9; exact absurd c1 (by rw [ex]; exact nI_ge (b := min k m) h9 (by omega)); exact h9
      have htw2 : t = min k m := by omega
      exact ⟨rfl, _, rfl, Or.inr ⟨k, en, hk1, hk8, Or.inr ⟨hl0, rfl, htw2 ▸ hw⟩⟩⟩
    · have htw : t < min k m := by rcases Nat.lt_or_ge (t) (min k m) with h9 | h9; exact h9; exact absurd (by rw [ex]; exact nI_le (a := min k m) h9 (by omega)) c1
      have htm : t < m := by omega
      obtain ⟨j, hj, ej0⟩ := hQ t htm
      have ej : I 24 0 = nI j := by rw [(g2 0 (by omega)).2, Nat.zero_add]; exact ej0
      obtain ⟨q, hq6, hlq0⟩ := hL j hj
      have hlq : I 21 j = nI q := by rw [g4 21 (by omega)]; exact hlq0
      refine v_aload_n 2 d_Fi_work_56 rfl rfl rfl ?_
      refine v_aload_n 2 d_Fi_work_57 rfl rfl rfl ?_
      refine v_getr (r := 22) d_Fi_work_58 fl_Fi_19 (hS.o (by decide) rfl) rfl (hS.r (by decide) rfl) rfl ?_
      refine v_iconst (v := 0) d_Fi_work_61 (by decide) rfl ?_
      refine v_cVp (as := [.int 0]) d_Fi_work_62 cs_Fi_127 (c_Qu_kindAt hC hS (d := d - 1) (j := 0) (by omega) (by omega)) (hS.o (by decide) rfl) (by decide) rfl rfl rfl (by simp [Value.category]) (by omega) rfl ?_
      refine v_aload_n 2 d_Fi_work_65 rfl rfl rfl ?_
      refine v_getr (r := 22) d_Fi_work_66 fl_Fi_19 (hS.o (by decide) rfl) rfl (hS.r (by decide) rfl) rfl ?_
      refine v_iconst (v := 0) d_Fi_work_69 (by decide) rfl ?_
      refine v_cVp (as := [.int 0]) d_Fi_work_70 cs_Fi_130 (c_Qu_fileAt hC hS (d := d - 1) (j := 0) (by omega) (by omega)) (hS.o (by decide) rfl) (by decide) rfl rfl rfl (by simp [Value.category]) (by omega) rfl ?_
      refine v_cVw (as := [.int (I 23 0), .int (I 24 0)]) d_Fi_work_73 cs_Fi_133 (c_Fi_follow hC hS (d := d - 1) (j := j) (m := q) hj ej hlq hq6 (by omega)) (hS.o (by decide) rfl) (by decide) rfl rfl rfl (by decide) (by omega) rfl (fun I1 J1 hf1 => ?_)
      refine v_aload_n 2 d_Fi_work_76 rfl rfl rfl ?_
      refine v_getr (r := 22) d_Fi_work_77 fl_Fi_19 (hS.o (by decide) rfl) rfl (hS.r (by decide) rfl) rfl ?_
      refine v_iconst (v := 0) d_Fi_work_80 (by decide) rfl ?_
      refine v_cVu (as := [.int 0]) d_Fi_work_81 cs_Fi_136 (c_Qu_drop hC hS (d := d - 1) (p := 0) (m := m - (t + 1)) (by omega) (by omega) (by rw [(hf1.fr hj).1 22 (by omega), g1, show m - t = m - (t + 1) + 1 by omega]) (by omega)) (hS.o (by decide) rfl) (by decide) rfl rfl rfl (by decide) (by omega) rfl (fun I2 hd1 => ?_)
      obtain ⟨x2, ex2⟩ : ∃ y : Int32, y = x + 1 := ⟨_, rfl⟩
      have nx2 : x2 = nI (t + 1) := by rw [ex2, show x = nI t from ex]; exact nI_1 _
      refine v_iinc (n := 0) (v := x2) (L' := [(3, .int x2), (2, .int (nI (min k m))), (0, .ref 0), (1, .int n)]) d_Fi_work_84 rfl (by rw [ex2]; rfl) (by decide) rfl rfl ?_
      refine v_goto (tgt := 51) d_Fi_work_87 (by decide) ?_
      exact ih (t + 1) _ _ _ nx2 (by omega) (by omega) ⟨I, J, I1, j, hw, ej, hj, hf1, hd1⟩
set_option maxHeartbeats 4000000 in
set_option maxRecDepth 100000 in
theorem c_Fi_work {C : CT} {l : Launch} {S : ShT} {I : DI} {J : DJ} {d : Nat} (hC : OKC C l) (hS : SHP S) {m : Nat} {n : Int32} (hm : m ≤ 8) (h2 : I 22 2 = nI m) (hL : ∀ i, i < 16 → ∃ q, q ≤ 60 ∧ I 21 i = nI q) (hQ : ∀ i, i < m → ∃ j, j < 16 ∧ I 24 i = nI j) (hlo : I 22 3 = 0 ∨ I 22 3 = 1) (hd : 6 ≤ d) : Sp C l k_Fi_work y_Fi_work (d, 1, 6) [.ref 0, .int n] S I J (FP S (WkQ I J m n)) := by
  refine Sp.of hC cd_Fi_work (Nat.le_of_ble_eq_true rfl) ?_
  show V C l k_Fi_work (d, 1, 6) _ 0 [(0, .ref 0), (1, .int n)] [] S I J (0, 0)
  refine v_iload_n 1 d_Fi_work_0 rfl rfl rfl ?_
  refine v_iconst (v := 1) d_Fi_work_1 (by decide) rfl ?_
  refine v_icmp_lt (tgt := 11) d_Fi_work_2 (by decide) rfl (fun c1 => ?_) (fun c1 => ?_)
  · refine v_throw (ci := 9) (by decide) d_Fi_work_11 d_Fi_work_14 d_Fi_work_15 d_Fi_work_18 wl_Fi_55 wn_Ea wi_Ea wx_Fi_57 rfl (by omega) ⟨Nat.le_of_ble_eq_true rfl, Nat.le_of_ble_eq_true rfl⟩ ?_
    exact ⟨rfl, I, J, rfl, rfl, Or.inl ⟨Or.inl c1, rfl, rfl, rfl⟩⟩
  · refine v_iload_n 1 d_Fi_work_5 rfl rfl rfl ?_
    refine v_bipush (v := 8) d_Fi_work_6 (by decide) rfl ?_
    refine v_icmp_le (tgt := 19) d_Fi_work_8 (by decide) rfl (fun c2 => ?_) (fun c2 => ?_)
    · obtain ⟨k, hk1, hk8, en⟩ := i_1to (m := 8) c1 (Int32.not_lt.mpr c2) (by omega)
      refine v_aload_n 0 d_Fi_work_19 rfl rfl rfl ?_
      refine v_getr (r := 22) d_Fi_work_20 fl_Fi_19 (hS.o (by decide) rfl) rfl (hS.r (by decide) rfl) rfl ?_
      refine v_cVp (as := []) d_Fi_work_23 cs_Fi_113 (c_Qu_isLost hC hS (d := d - 1) hlo (by omega)) (hS.o (by decide) rfl) (by decide) rfl rfl rfl (by decide) (by omega) rfl ?_
      refine v_if_eq (tgt := 37) d_Fi_work_26 (by decide) rfl (fun c3 => ?_) (fun c3 => ?_)
      · refine v_iload_n 1 d_Fi_work_37 rfl rfl rfl ?_
        refine v_aload_n 0 d_Fi_work_38 rfl rfl rfl ?_
        refine v_getr (r := 22) d_Fi_work_39 fl_Fi_19 (hS.o (by decide) rfl) rfl (hS.r (by decide) rfl) rfl ?_
        refine v_cVp (as := []) d_Fi_work_42 cs_Fi_117 (c_Qu_size hC hS (d := d - 1) (by omega)) (hS.o (by decide) rfl) (by decide) rfl rfl rfl (by simp [Value.category]) (by omega) rfl ?_
        refine v_min d_Fi_work_45 wm_Fi_121 ws_Mt_min (by omega) (by decide) rfl ?_
        refine v_nmi (fun z4 ez4 => ?_)
        refine v_istore_n (L' := [(2, .int z4), (0, .ref 0), (1, .int n)]) d_Fi_work_48 rfl (by decide) rfl rfl ?_
        refine v_iconst (v := 0) d_Fi_work_49 (by decide) rfl ?_
        refine v_istore_n (L' := [(3, .int 0), (2, .int z4), (0, .ref 0), (1, .int n)]) d_Fi_work_50 rfl (by decide) rfl rfl ?_
        have ezm : z4 = nI (min k m) := by rw [ez4, en, h2]; exact nI_min (a := k) (b := m) (by omega) (by omega)
        rw [ezm]
        exact lp_Fi_work hC hS hd hm h2 hL hQ en hk1 hk8 c3 (min k m + 1) 0 I J _ rfl (by omega) (by omega) ⟨rfl, rfl⟩
      · refine v_throw (ci := 10) (by decide) d_Fi_work_29 d_Fi_work_32 d_Fi_work_33 d_Fi_work_36 wl_Fi_64 wn_Es wi_Es wx_Fi_66 rfl (by omega) ⟨Nat.le_of_ble_eq_true rfl, Nat.le_of_ble_eq_true rfl⟩ ?_
        exact ⟨rfl, I, J, rfl, rfl, Or.inr ⟨k, en, hk1, hk8, Or.inl ⟨c3, rfl, rfl, rfl⟩⟩⟩
    · refine v_throw (ci := 9) (by decide) d_Fi_work_11 d_Fi_work_14 d_Fi_work_15 d_Fi_work_18 wl_Fi_55 wn_Ea wi_Ea wx_Fi_57 rfl (by omega) ⟨Nat.le_of_ble_eq_true rfl, Nat.le_of_ble_eq_true rfl⟩ ?_
      exact ⟨rfl, I, J, rfl, rfl, Or.inl ⟨Or.inr (Int32.not_le.mp c2), rfl, rfl, rfl⟩⟩
def RcC (I0 : DI) (J0 : DJ) : Nat → Nat → DI → DJ → Prop
  | 0, c, I, J => c = 0 ∧ I = I0 ∧ J = J0
  | t + 1, c, I, J => ∃ c0 I1 J1, RcC I0 J0 t c0 I1 J1 ∧ ((I0 2 (t + 1) = 2 ∧ Rd I1 J1 (t + 1) I J ∧ c = c0 + 1) ∨ (¬ I0 2 (t + 1) = 2 ∧ I = u2 I1 27 (t + 1) 0 ∧ J = J1 ∧ c = c0))
theorem RcC.inv {I0 : DI} {J0 : DJ} : ∀ (t c : Nat) (I : DI) (J : DJ), t ≤ 15 → RcC I0 J0 t c I J → c ≤ t ∧ (∀ b, b < 25 ∨ 76 ≤ b → I b = I0 b) ∧ ∀ b, b < 29 ∨ 76 ≤ b → J b = J0 b := by
  intro t
  induction t with
  | zero => rintro c I J _ ⟨rfl, rfl, rfl⟩; exact ⟨Nat.le_refl _, fun _ _ => rfl, fun _ _ => rfl⟩
  | succ t ih =>
    rintro c I J ht ⟨c0, I1, J1, h1, h3⟩
    obtain ⟨g1, g2, g3⟩ := ih c0 I1 J1 (by omega) h1
    rcases h3 with ⟨_, q2, q3⟩ | ⟨_, q2, q3, q4⟩
    · obtain ⟨k1, k2, _⟩ := q2.fr (by omega)
      exact ⟨by omega, fun b hb => by rw [k1 b hb, g2 b hb], fun b hb => by rw [k2 b hb, g3 b hb]⟩
    · rw [q2, q3]; exact ⟨by omega, fun b hb => by rw [u2_o (by omega), g2 b hb], g3⟩
def RcQ (I : DI) (J : DJ) (x : Int32) (I' : DI) (J' : DJ) : Prop := ∃ c I1, c ≤ 15 ∧ RcC I J 15 c I1 J' ∧ x = nI c ∧ I' = u2 (u2 I1 22 2 0) 22 3 0
set_option maxHeartbeats 4000000 in
set_option maxRecDepth 100000 in
theorem lp_Fi_rescan {C : CT} {l : Launch} {S : ShT} {d : Nat} (hC : OKC C l) (hS : SHP S) (hd : 5 ≤ d) {I0 : DI} {J0 : DJ} (hL : ∀ i, i < 16 → ∃ q, q ≤ 60 ∧ I0 21 i = nI q) : ∀ (n0 : Nat) (t c : Nat) (I : DI) (J : DJ) (x z : Int32), x = nI (t + 1) → z = nI c → t ≤ 15 → 15 < t + n0 → RcC I0 J0 t c I J → V C l k_Fi_rescan (d, 0, 0) (PJ S (RcQ I0 J0)) 4 [(2, .int x), (1, .int z), (0, .ref 0)] [] S I J (0, 0) := by
  intro n0
  induction n0 with
  | zero =>
    intro t c I J x z ex ez ht0 hf hw
    omega
  | succ n0 ih =>
    intro t c I J x z ex ez ht0 hf hw
    obtain ⟨g1, g2, g3⟩ := RcC.inv t c I J (by omega) hw
    refine v_iload_n 0 d_Fi_rescan_4 rfl rfl rfl ?_
    refine v_bipush (v := 16) d_Fi_rescan_5 (by decide) rfl ?_
    refine v_icmp_ge (tgt := 46) d_Fi_rescan_7 (by decide) rfl (fun c1 => ?_) (fun c1 => ?_)
    · refine v_aload_n 2 d_Fi_rescan_46 rfl rfl rfl ?_
      refine v_getr (r := 22) d_Fi_rescan_47 fl_Fi_19 (hS.o (by decide) rfl) rfl (hS.r (by decide) rfl) rfl ?_
      refine v_cVu (as := []) d_Fi_rescan_50 cs_Fi_145 (c_Qu_startAnew hC hS (d := d - 1) (by omega)) (hS.o (by decide) rfl) (by decide) rfl rfl rfl (by decide) (by omega) rfl (fun I2 hs => ?_)
      refine v_iload_n 1 d_Fi_rescan_53 rfl rfl rfl ?_
      refine v_iret d_Fi_rescan_54 rfl ?_
      have ht15 : 16 ≤ t + 1 := by rcases Nat.lt_or_ge (t + 1) (16) with h9 | h9; exact absurd c1 (by rw [ex]; exact nI_ge (b := 16) h9 (by omega)); exact h9
      have htw2 : t = 15 := by omega
      subst htw2
      exact ⟨rfl, _, rfl, c, I, g1, hw, ez, hs⟩
    · have ht15 : t + 1 < 16 := by rcases Nat.lt_or_ge (t + 1) (16) with h9 | h9; exact h9; exact absurd (by rw [ex]; exact nI_le (a := 16) h9 (by omega)) c1
      obtain ⟨q, hq6, hlq0⟩ := hL (t + 1) ht15
      have hlq : I 21 (t + 1) = nI q := by rw [g2 21 (by omega)]; exact hlq0
      refine v_aload_n 2 d_Fi_rescan_10 rfl rfl rfl ?_
      refine v_getr (r := 1) d_Fi_rescan_11 fl_Fi_10 (hS.o (by decide) rfl) rfl (hS.r (by decide) rfl) rfl ?_
      refine v_iload_n 0 d_Fi_rescan_14 rfl rfl rfl ?_
      refine v_cVp (as := [.int x]) d_Fi_rescan_15 cs_Fi_75 (by rw [ex]; exact c_Tr_isFile hC hS (d := d - 1) (nI (t + 1)) (by omega)) (hS.o (by decide) rfl) (by decide) rfl rfl rfl (by decide) (by omega) rfl ?_
      rw [ndS_j ht15]
      refine v_if_eq (tgt := 32) d_Fi_rescan_18 (by decide) rfl (fun c2 => ?_) (fun c2 => ?_)
      · refine v_aload_n 2 d_Fi_rescan_32 rfl rfl rfl ?_
        refine v_getr (r := 25) d_Fi_rescan_33 fl_Fi_26 (hS.o (by decide) rfl) rfl (hS.r (by decide) rfl) rfl ?_
        refine v_iload_n 0 d_Fi_rescan_36 rfl rfl rfl ?_
        refine v_cVu (as := [.int x]) d_Fi_rescan_37 cs_Fi_142 (by rw [ex]; exact c_Ix_forget hC hS (d := d - 1) (j := t + 1) ht15 (by omega)) (hS.o (by decide) rfl) (by decide) rfl rfl rfl (by decide) (by omega) rfl (fun I1 hr => ?_)
        obtain ⟨x3, ex3⟩ : ∃ y : Int32, y = x + 1 := ⟨_, rfl⟩
        have nx3 : x3 = nI ((t + 1) + 1) := by rw [ex3, show x = nI (t + 1) from ex]; exact nI_1 _
        refine v_iinc (n := 0) (v := x3) (L' := [(2, .int x3), (1, .int z), (0, .ref 0)]) d_Fi_rescan_40 rfl (by rw [ex3]; rfl) (by decide) rfl rfl ?_
        refine v_goto (tgt := 4) d_Fi_rescan_43 (by decide) ?_
        exact ih (t + 1) c _ _ _ _ nx3 ez (by omega) (by omega) ⟨c, I, J, hw, Or.inr ⟨by rw [← g2 2 (by omega)]; exact bd_f c2, hr, rfl, rfl⟩⟩
      · refine v_aload_n 2 d_Fi_rescan_21 rfl rfl rfl ?_
        refine v_iload_n 0 d_Fi_rescan_22 rfl rfl rfl ?_
        refine v_cVw (as := [.int x]) d_Fi_rescan_23 cs_Fi_139 (by rw [ex]; exact c_Fi_readFile hC hS (d := d - 1) (j := t + 1) (m := q) ht15 hlq hq6 (by omega)) (hS.o (by decide) rfl) (by decide) rfl rfl rfl (by decide) (by omega) rfl (fun I1 J1 hr => ?_)
        obtain ⟨x4, ex4⟩ : ∃ y : Int32, y = z + 1 := ⟨_, rfl⟩
        have nx4 : x4 = nI (c + 1) := by rw [ex4, show z = nI c from ez]; exact nI_1 _
        refine v_iinc (n := 1) (v := x4) (L' := [(1, .int x4), (2, .int x), (0, .ref 0)]) d_Fi_rescan_26 rfl (by rw [ex4]; rfl) (by decide) rfl rfl ?_
        refine v_goto (tgt := 40) d_Fi_rescan_29 (by decide) ?_
        obtain ⟨x5, ex5⟩ : ∃ y : Int32, y = x + 1 := ⟨_, rfl⟩
        have nx5 : x5 = nI ((t + 1) + 1) := by rw [ex5, show x = nI (t + 1) from ex]; exact nI_1 _
        refine v_iinc (n := 1) (v := x5) (L' := [(2, .int x5), (1, .int x4), (0, .ref 0)]) d_Fi_rescan_40 rfl (by rw [ex5]; rfl) (by decide) rfl rfl ?_
        refine v_goto (tgt := 4) d_Fi_rescan_43 (by decide) ?_
        exact ih (t + 1) (c + 1) _ _ _ _ nx5 nx4 (by omega) (by omega) ⟨c, I, J, hw, Or.inl ⟨by rw [← g2 2 (by omega)]; exact bd_t c2, hr, rfl⟩⟩
set_option maxHeartbeats 4000000 in
set_option maxRecDepth 100000 in
theorem c_Fi_rescan {C : CT} {l : Launch} {S : ShT} {I : DI} {J : DJ} {d : Nat} (hC : OKC C l) (hS : SHP S) (hL : ∀ i, i < 16 → ∃ q, q ≤ 60 ∧ I 21 i = nI q) (hd : 5 ≤ d) : Sp C l k_Fi_rescan y_Fi_rescan (d, 0, 0) [.ref 0] S I J (PJ S (RcQ I J)) := by
  refine Sp.of hC cd_Fi_rescan (Nat.le_of_ble_eq_true rfl) ?_
  show V C l k_Fi_rescan (d, 0, 0) _ 0 [(0, .ref 0)] [] S I J (0, 0)
  refine v_iconst (v := 0) d_Fi_rescan_0 (by decide) rfl ?_
  refine v_istore_n (L' := [(1, .int 0), (0, .ref 0)]) d_Fi_rescan_1 rfl (by decide) rfl rfl ?_
  refine v_iconst (v := 1) d_Fi_rescan_2 (by decide) rfl ?_
  refine v_istore_n (L' := [(2, .int 1), (1, .int 0), (0, .ref 0)]) d_Fi_rescan_3 rfl (by decide) rfl rfl ?_
  exact lp_Fi_rescan hC hS hd hL 16 0 0 I J _ _ rfl rfl (by omega) (by omega) ⟨rfl, rfl, rfl⟩
