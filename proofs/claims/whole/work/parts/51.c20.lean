/-! ===== the face, 2: write, remove ===== -/
/-- t of the k characters of v are put behind the m characters of the file j -/
def wrF (I : DI) (j m : Nat) (v : Int64) (k : Nat) : Nat → DI
  | 0 => I
  | t + 1 => u2 (u2 (wrF I j m v k t) (5 + j) (m + t) (byOf v (nI (k - 1 - t)))) 21 j (nI (m + t + 1))
theorem wrF_s (I : DI) (j m : Nat) (v : Int64) (k t : Nat) : wrF I j m v k (t + 1) = u2 (u2 (wrF I j m v k t) (5 + j) (m + t) (byOf v (nI (k - 1 - t)))) 21 j (nI (m + t + 1)) := rfl
theorem wrF_l {I : DI} {j m : Nat} (h : I 21 j = nI m) (v : Int64) (k t : Nat) : wrF I j m v k t 21 j = nI (m + t) := by
  cases t with
  | zero => exact h
  | succ t => rw [wrF_s, u2_s]; rfl
theorem wrF_o (I : DI) {j : Nat} (m : Nat) (v : Int64) (k t : Nat) {b : Nat} (h1 : b ≠ 5 + j) (h2 : b ≠ 21) : wrF I j m v k t b = I b := by
  induction t with
  | zero => rfl
  | succ t ih => rw [wrF_s, u2_o h2, u2_o h1, ih]
theorem wrF_n (I : DI) {j : Nat} (m : Nat) (v : Int64) (k t : Nat) {i : Nat} (hj : j < 16) (h1 : i ≠ j) : wrF I j m v k t 21 i = I 21 i := by
  induction t with
  | zero => rfl
  | succ t ih => rw [wrF_s, u2_n (Or.inr h1), u2_o (by omega), ih]
def WrQ (I : DI) (J : DJ) (a : Int32) (v : Int64) (n : Int32) (r : Int32 ⊕ Nat) (I' : DI) (J' : DJ) : Prop := J' = J ∧ (
  (¬ ndS I a = 2 ∧ r = .inr 11 ∧ I' = I) ∨
  (∃ j m, a = nI j ∧ j < 16 ∧ I 2 j = 2 ∧ I 21 j = nI m ∧ m ≤ 60 ∧ (
    ((∀ k, 1 ≤ k → k ≤ 8 → n = nI k → alF (arC v) 0 k = false) ∧ r = .inr 9 ∧ I' = I) ∨
    (∃ k, n = nI k ∧ 1 ≤ k ∧ k ≤ 8 ∧ alF (arC v) 0 k = true ∧ ((60 < m + k ∧ r = .inr 10 ∧ I' = I) ∨ (m + k ≤ 60 ∧ r = .inl (nI (m + k)) ∧ Tl (wrF I j m v k k) (nI j) 2 I'))))))
theorem i_1to {x : Int32} {m : Nat} (h0 : ¬ x < 1) (h1 : ¬ nI m < x) (hm : m < 1000) : ∃ k : Nat, 1 ≤ k ∧ k ≤ m ∧ x = nI k := by
  rcases pk_ix x (n := m + 1) (by omega) with h2 | h2 | ⟨k, h2, rfl⟩
  · exact absurd (Int32.lt_trans h2 (by decide)) h0
  · exact absurd (Int32.le_trans h2 (Int32.not_lt.mp h1)) (nI_ge (by omega) (by omega))
  · refine ⟨k, ?_, by omega, rfl⟩
    rcases Nat.lt_or_ge k 1 with h3 | h3
    · exact absurd (nI_lt (b := 1) h3 (by decide)) h0
    · exact h3
theorem nI_inj {a b : Nat} (ha : a < 2 ^ 31) (hb : b < 2 ^ 31) (h : nI a = nI b) : a = b := by
  have h1 := nI_toInt ha
  rw [h, nI_toInt hb] at h1
  omega
theorem i_m1 {k t : Nat} (ht : t < k) : nI (k - 1 - t) + (-1) = nI (k - (t + 1)) - 1 := by rw [Int32.sub_eq_add_neg, show k - 1 - t = k - (t + 1) by omega]
set_option maxHeartbeats 4000000 in
set_option maxRecDepth 100000 in
theorem lp_Fi_write {C : CT} {l : Launch} {S : ShT} {d : Nat} (hC : OKC C l) (hS : SHP S) (hd : 6 ≤ d) {I : DI} {J : DJ} {a n : Int32} {v : Int64} {j m k q : Nat} (hm : m ≤ 8) (h2 : I 22 2 = nI m) (ea : a = nI j) (hj : j < 16) (hj2 : I 2 j = 2) (hlj : I 21 j = nI q) (en : n = nI k) (hk1 : 1 ≤ k) (hk8 : k ≤ 8) (hac : alF (arC v) 0 k = true) (hqk : q + k ≤ 60) : ∀ (n0 : Nat) (t : Nat) (x : Int32), x = nI (k - t) - 1 → t ≤ k → k < t + n0 → V C l k_Fi_write (d, 1, 6) (FP S (WrQ I J a v n)) 79 [(5, .int x), (0, .ref 0), (1, .int a), (2, .long v), (4, .int n)] [] S (wrF I j q v k t) J (0, 0) := by
  intro n0
  induction n0 with
  | zero =>
    intro t x ex ht0 hf
    omega
  | succ n0 ih =>
    intro t x ex ht0 hf
    refine v_iload 0 d_Fi_write_79 rfl rfl ?_
    refine v_if_lt (tgt := 104) d_Fi_write_81 (by decide) rfl (fun c1 => ?_) (fun c1 => ?_)
    · have htk : t = k := by rcases Nat.lt_or_ge t k with h9 | h9; exact absurd c1 (by rw [ex, show (1 : Int32) = nI 1 from rfl, pk_sub (by omega)]; exact nI_pos (by omega)); omega
      subst htk
      refine v_aload_n 1 d_Fi_write_104 rfl rfl rfl ?_
      refine v_getr (r := 22) d_Fi_write_105 fl_Fi_19 (hS.o (by decide) rfl) rfl (hS.r (by decide) rfl) rfl ?_
      refine v_iload_n 2 d_Fi_write_108 rfl rfl rfl ?_
      refine v_iconst (v := 2) d_Fi_write_109 (by decide) rfl ?_
      refine v_cVu (as := [.int a, .int 2]) d_Fi_write_110 cs_Fi_71 (by rw [ea]; exact ct_tell hC hS (d := d - 1) hm (by rw [wrF_o _ _ _ _ _ (by omega) (by decide)]; exact h2) (nI j) 2 (by omega)) (hS.o (by decide) rfl) (by decide) rfl rfl rfl (by decide) (by omega) rfl (fun I2 ht => ?_)
      refine v_aload_n 1 d_Fi_write_113 rfl rfl rfl ?_
      refine v_getr (r := 1) d_Fi_write_114 fl_Fi_10 (hS.o (by decide) rfl) rfl (hS.r (by decide) rfl) rfl ?_
      refine v_iload_n 2 d_Fi_write_117 rfl rfl rfl ?_
      refine v_cVp (as := [.int a]) d_Fi_write_118 cs_Fi_85 (by rw [ea]; exact c_Tr_lengthOf hC hS (d := d - 1) (j := j) hj (by omega)) (hS.o (by decide) rfl) (by decide) rfl rfl rfl (by decide) (by omega) rfl ?_
      refine v_iret d_Fi_write_121 rfl ?_
      obtain ⟨m1, m2, g1, g2, g3, g4, g5, g6⟩ := id ht
      refine ⟨rfl, _, rfl, rfl, Or.inr ⟨j, q, ea, hj, hj2, hlj, by omega, Or.inr ⟨t, en, hk1, hk8, hac, Or.inr ⟨hqk, congrArg Sum.inl ?_, ht⟩⟩⟩⟩
      rw [g6 21 (by decide) (by decide) (by decide)]
      exact wrF_l hlj v t t
    · have htk : t < k := by rcases Nat.lt_or_ge t k with h9 | h9; exact h9; exact absurd (show x < 0 by rw [ex, show k - t = 0 by omega]; decide) c1
      have exk : x = nI (k - 1 - t) := by rw [ex, show (1 : Int32) = nI 1 from rfl, pk_sub (by omega), show k - t - 1 = k - 1 - t by omega]
      refine v_aload_n 1 d_Fi_write_84 rfl rfl rfl ?_
      refine v_getr (r := 1) d_Fi_write_85 fl_Fi_10 (hS.o (by decide) rfl) rfl (hS.r (by decide) rfl) rfl ?_
      refine v_iload_n 2 d_Fi_write_88 rfl rfl rfl ?_
      refine v_lload_n 3 d_Fi_write_89 rfl rfl rfl ?_
      refine v_iload 0 d_Fi_write_90 rfl rfl ?_
      refine v_cSp (as := [.long v, .int x]) d_Fi_write_92 cs_Fi_89 (by rw [exk]; exact c_Fi_byteOf hC (d := d - 1) v (nI (k - 1 - t)) (by omega)) rfl rfl (by simp [Value.category]) (by omega) rfl ?_
      refine v_cVu (as := [.int a, .int (byOf v (nI (k - 1 - t)))]) d_Fi_write_95 cs_Fi_93 (by rw [ea]; exact c_Tr_append hC hS (d := d - 1) (j := j) (n := q + t) hj (byOf v (nI (k - 1 - t))) (wrF_l hlj v k t) (by omega) (by omega)) (hS.o (by decide) rfl) (by decide) rfl rfl rfl (by decide) (by omega) rfl (fun I1 h1 => ?_)
      obtain ⟨x2, ex2⟩ : ∃ y : Int32, y = x + (-1) := ⟨_, rfl⟩
      refine v_iinc (n := 0) (v := x2) (L' := [(5, .int x2), (0, .ref 0), (1, .int a), (2, .long v), (4, .int n)]) d_Fi_write_98 rfl (by rw [ex2]; rfl) (by decide) rfl rfl ?_
      refine v_goto (tgt := 79) d_Fi_write_101 (by decide) ?_
      rw [h1, ← wrF_s]
      exact ih (t + 1) _ (by rw [ex2, exk]; exact i_m1 htk) (by omega) (by omega)
set_option maxHeartbeats 4000000 in
set_option maxRecDepth 100000 in
theorem c_Fi_write {C : CT} {l : Launch} {S : ShT} {I : DI} {J : DJ} {d : Nat} (hC : OKC C l) (hS : SHP S) {m : Nat} {a n : Int32} {v : Int64} (hm : m ≤ 8) (h2 : I 22 2 = nI m) (hL : ∀ i, i < 16 → ∃ q, q ≤ 60 ∧ I 21 i = nI q) (hd : 6 ≤ d) : Sp C l k_Fi_write y_Fi_write (d, 1, 6) [.ref 0, .int a, .long v, .int n] S I J (FP S (WrQ I J a v n)) := by
  refine Sp.of hC cd_Fi_write (Nat.le_of_ble_eq_true rfl) ?_
  show V C l k_Fi_write (d, 1, 6) _ 0 [(0, .ref 0), (1, .int a), (2, .long v), (4, .int n)] [] S I J (0, 0)
  refine v_aload_n 0 d_Fi_write_0 rfl rfl rfl ?_
  refine v_getr (r := 1) d_Fi_write_1 fl_Fi_10 (hS.o (by decide) rfl) rfl (hS.r (by decide) rfl) rfl ?_
  refine v_iload_n 1 d_Fi_write_4 rfl rfl rfl ?_
  refine v_cVp (as := [.int a]) d_Fi_write_5 cs_Fi_75 (c_Tr_isFile hC hS (d := d - 1) a (by omega)) (hS.o (by decide) rfl) (by decide) rfl rfl rfl (by decide) (by omega) rfl ?_
  refine v_if_ne (tgt := 19) d_Fi_write_8 (by decide) rfl (fun c1 => ?_) (fun c1 => ?_)
  · obtain ⟨j, hj, ea, hj2⟩ := ndS_ex (bd_t c1) (by decide)
    obtain ⟨q, hq6, hlj⟩ := hL j hj
    refine v_iload 3 d_Fi_write_19 rfl rfl ?_
    refine v_iconst (v := 1) d_Fi_write_21 (by decide) rfl ?_
    refine v_icmp_lt (tgt := 41) d_Fi_write_22 (by decide) rfl (fun c2 => ?_) (fun c2 => ?_)
    · refine v_throw (ci := 9) (by decide) d_Fi_write_41 d_Fi_write_44 d_Fi_write_45 d_Fi_write_48 wl_Fi_55 wn_Ea wi_Ea wx_Fi_57 rfl (by omega) ⟨Nat.le_of_ble_eq_true rfl, Nat.le_of_ble_eq_true rfl⟩ ?_
      exact ⟨rfl, I, J, rfl, rfl, rfl, Or.inr ⟨j, q, ea, hj, hj2, hlj, hq6, Or.inl ⟨fun k9 h8 h7 e9 => absurd c2 (by rw [e9]; exact Int32.not_lt.mpr (nI_le (a := 1) h8 (by omega))), rfl, rfl⟩⟩⟩
    · refine v_iload 3 d_Fi_write_25 rfl rfl ?_
      refine v_bipush (v := 8) d_Fi_write_27 (by decide) rfl ?_
      refine v_icmp_gt (tgt := 41) d_Fi_write_29 (by decide) rfl (fun c3 => ?_) (fun c3 => ?_)
      · refine v_throw (ci := 9) (by decide) d_Fi_write_41 d_Fi_write_44 d_Fi_write_45 d_Fi_write_48 wl_Fi_55 wn_Ea wi_Ea wx_Fi_57 rfl (by omega) ⟨Nat.le_of_ble_eq_true rfl, Nat.le_of_ble_eq_true rfl⟩ ?_
        exact ⟨rfl, I, J, rfl, rfl, rfl, Or.inr ⟨j, q, ea, hj, hj2, hlj, hq6, Or.inl ⟨fun k9 _ h8 e9 => absurd c3 (by rw [e9]; exact Int32.not_lt.mpr (nI_le (b := 8) h8 (by decide))), rfl, rfl⟩⟩⟩
      · obtain ⟨k, hk1, hk8, en⟩ := i_1to (m := 8) c2 c3 (by omega)
        refine v_lload_n 2 d_Fi_write_32 rfl rfl rfl ?_
        refine v_iload 3 d_Fi_write_33 rfl rfl ?_
        refine v_cSp (as := [.long v, .int n]) d_Fi_write_35 cs_Fi_81 (by rw [en]; exact c_Fi_areCodes hC (d := d - 1) v (by omega) (by omega)) rfl rfl (by decide) (by omega) rfl ?_
        refine v_if_ne (tgt := 49) d_Fi_write_38 (by decide) rfl (fun c4 => ?_) (fun c4 => ?_)
        · refine v_aload_n 0 d_Fi_write_49 rfl rfl rfl ?_
          refine v_getr (r := 1) d_Fi_write_50 fl_Fi_10 (hS.o (by decide) rfl) rfl (hS.r (by decide) rfl) rfl ?_
          refine v_iload_n 1 d_Fi_write_53 rfl rfl rfl ?_
          refine v_cVp (as := [.int a]) d_Fi_write_54 cs_Fi_85 (by rw [ea]; exact c_Tr_lengthOf hC hS (d := d - 1) (j := j) hj (by omega)) (hS.o (by decide) rfl) (by decide) rfl rfl rfl (by decide) (by omega) rfl ?_
          refine v_iload 3 d_Fi_write_57 rfl rfl ?_
          refine v_iadd d_Fi_write_59 rfl ?_
          refine v_nmi (fun z5 ez5 => ?_)
          have nz5 : z5 = nI (q + k) := by rw [ez5, show I 21 j = nI q from hlj, show n = nI k from en]; exact nI_add _ _
          refine v_bipush (v := 60) d_Fi_write_60 (by decide) rfl ?_
          refine v_icmp_le (tgt := 73) d_Fi_write_62 (by decide) rfl (fun c6 => ?_) (fun c6 => ?_)
          · refine v_iload 3 d_Fi_write_73 rfl rfl ?_
            refine v_iconst (v := 1) d_Fi_write_75 (by decide) rfl ?_
            refine v_isub d_Fi_write_76 rfl ?_
            refine v_nmi (fun z7 ez7 => ?_)
            have nz7 : z7 = nI (k - 1) := by rw [ez7, show n = nI k from en, show 1 = nI 1 from rfl]; exact pk_sub (by omega)
            refine v_istore (L' := [(5, .int z7), (0, .ref 0), (1, .int a), (2, .long v), (4, .int n)]) d_Fi_write_77 (by decide) rfl rfl ?_
            have hqk : q + k ≤ 60 := by rcases Nat.lt_or_ge 60 (q + k) with h9 | h9; exact absurd c6 (by rw [nz5]; exact nI_ge (a := 60) h9 (by omega)); exact h9
            exact lp_Fi_write hC hS hd hm h2 ea hj hj2 hlj en hk1 hk8 (bI_t c4) hqk (k + 1) 0 _ (by rw [nz7, Nat.sub_zero]; exact (pk_sub (b := 1) hk1).symm) (by omega) (by omega)
          · refine v_throw (ci := 10) (by decide) d_Fi_write_65 d_Fi_write_68 d_Fi_write_69 d_Fi_write_72 wl_Fi_64 wn_Es wi_Es wx_Fi_66 rfl (by omega) ⟨Nat.le_of_ble_eq_true rfl, Nat.le_of_ble_eq_true rfl⟩ ?_
            exact ⟨rfl, I, J, rfl, rfl, rfl, Or.inr ⟨j, q, ea, hj, hj2, hlj, hq6, Or.inr ⟨k, en, hk1, hk8, bI_t c4, Or.inl ⟨by rcases Nat.lt_or_ge 60 (q + k) with h9 | h9; exact h9; exact absurd (by rw [nz5]; exact nI_le (b := 60) h9 (by decide)) c6, rfl, rfl⟩⟩⟩⟩
        · refine v_throw (ci := 9) (by decide) d_Fi_write_41 d_Fi_write_44 d_Fi_write_45 d_Fi_write_48 wl_Fi_55 wn_Ea wi_Ea wx_Fi_57 rfl (by omega) ⟨Nat.le_of_ble_eq_true rfl, Nat.le_of_ble_eq_true rfl⟩ ?_
          exact ⟨rfl, I, J, rfl, rfl, rfl, Or.inr ⟨j, q, ea, hj, hj2, hlj, hq6, Or.inl ⟨fun k9 _ _ e9 => by rw [en] at e9; rw [← nI_inj (by omega) (by omega) e9]; exact bI_f c4, rfl, rfl⟩⟩⟩
  · refine v_throw (ci := 11) (by decide) d_Fi_write_11 d_Fi_write_14 d_Fi_write_15 d_Fi_write_18 wl_Fi_78 wn_Ne wi_Ne wx_Fi_80 rfl (by omega) ⟨Nat.le_of_ble_eq_true rfl, Nat.le_of_ble_eq_true rfl⟩ ?_
    exact ⟨rfl, I, J, rfl, rfl, rfl, Or.inl ⟨bd_f c1, rfl, rfl⟩⟩
/-- node t is j, or within it -/
def wth (I : DI) (t j : Nat) : Prop := t = j ∨ (!decide (I 2 t = 0) && wup (I 3) (nI j) 16 t) = true
def RvC (I0 : DI) (j : Nat) : Nat → Nat → DI → Prop
  | 0, c, I => c = 0 ∧ I = I0
  | t + 1, c, I => ∃ c0 I1, RvC I0 j t c0 I1 ∧ ((wth I1 (t + 1) j ∧ Rm I1 (t + 1) I ∧ c = c0 + 1) ∨ (¬ wth I1 (t + 1) j ∧ I = I1 ∧ c = c0))
theorem Rm.inv {I I' : DI} {j m : Nat} (h : Rm I j I') (hm : m ≤ 8) (h2 : I 22 2 = nI m) : (∀ b, b ≠ 2 → b ≠ 22 → b ≠ 23 → b ≠ 24 → I' b = I b) ∧ ∃ m', m' ≤ 8 ∧ I' 22 2 = nI m' := by
  unfold Rm at h
  by_cases h1 : I 2 j = 2
  · rw [if_pos h1] at h
    obtain ⟨m1, m2, g1, g2, g3, g4, g5, g6⟩ := h
    exact ⟨fun b b1 b2 b3 b4 => by rw [g6 b b2 b3 b4, u2_o b1], m2, g4, g3⟩
  · rw [if_neg h1] at h
    rw [h]
    exact ⟨fun b b1 _ _ _ => by rw [u2_o b1], m, hm, by rw [u2_o (by decide)]; exact h2⟩
theorem RvC.inv {I0 : DI} {j m : Nat} (hm : m ≤ 8) (h2 : I0 22 2 = nI m) : ∀ (t c : Nat) (I : DI), RvC I0 j t c I → c ≤ t ∧ (∀ b, b ≠ 2 → b ≠ 22 → b ≠ 23 → b ≠ 24 → I b = I0 b) ∧ ∃ m', m' ≤ 8 ∧ I 22 2 = nI m' := by
  intro t
  induction t with
  | zero => intro c I h; obtain ⟨rfl, rfl⟩ := h; exact ⟨Nat.le_refl _, fun _ _ _ _ _ => rfl, m, hm, h2⟩
  | succ t ih =>
    intro c I h
    obtain ⟨c0, I1, h1, h3⟩ := h
    obtain ⟨g1, g2, m', g3, g4⟩ := ih c0 I1 h1
    rcases h3 with ⟨_, q2, q3⟩ | ⟨_, q2, q3⟩
    · obtain ⟨k1, k2⟩ := q2.inv g3 g4
      exact ⟨by omega, fun b b1 b2 b3 b4 => by rw [k1 b b1 b2 b3 b4, g2 b b1 b2 b3 b4], k2⟩
    · rw [q2]; exact ⟨by omega, g2, m', g3, g4⟩
def RvQ (I : DI) (J : DJ) (a : Int32) (r : Int32 ⊕ Nat) (I' : DI) (J' : DJ) : Prop := J' = J ∧ (
  (isNb a = false ∧ r = .inr 9 ∧ I' = I) ∨ (isNb a = true ∧ ndS I a = 0 ∧ r = .inr 11 ∧ I' = I) ∨
  (∃ j c, a = nI j ∧ 1 ≤ j ∧ j < 16 ∧ ¬ I 2 j = 0 ∧ RvC I j 15 c I' ∧ r = .inl (nI c)))
set_option maxHeartbeats 4000000 in
set_option maxRecDepth 100000 in
theorem lp_Fi_remove {C : CT} {l : Launch} {S : ShT} {d : Nat} (hC : OKC C l) (hS : SHP S) (hd : 6 ≤ d) {I0 : DI} {J : DJ} {a : Int32} {j m : Nat} (hm : m ≤ 8) (h2 : I0 22 2 = nI m) (hP : ∀ i, i < 16 → ∃ j, j < 16 ∧ I0 3 i = nI j) (ea : a = nI j) (hj1 : 1 ≤ j) (hj : j < 16) (hj0 : ¬ I0 2 j = 0) : ∀ (n : Nat) (t c : Nat) (I : DI) (x z : Int32), x = nI (t + 1) → z = nI c → t ≤ 15 → 15 < t + n → RvC I0 j t c I → V C l k_Fi_remove (d, 1, 6) (FP S (RvQ I0 J a)) 38 [(3, .int x), (2, .int z), (0, .ref 0), (1, .int a)] [] S I J (0, 0) := by
  intro n
  induction n with
  | zero =>
    intro t c I x z ex ez ht0 hf hC0
    omega
  | succ n ih =>
    intro t c I x z ex ez ht0 hf hC0
    obtain ⟨hct, hfr, m1, hm1, h21⟩ := RvC.inv hm h2 t c I hC0
    have h3 : I 3 = I0 3 := hfr 3 (by decide) (by decide) (by decide) (by decide)
    refine v_iload_n 0 d_Fi_remove_38 rfl rfl rfl ?_
    refine v_bipush (v := 16) d_Fi_remove_39 (by decide) rfl ?_
    refine v_icmp_ge (tgt := 75) d_Fi_remove_41 (by decide) rfl (fun c1 => ?_) (fun c1 => ?_)
    · refine v_iload_n 1 d_Fi_remove_75 rfl rfl rfl ?_
      refine v_iret d_Fi_remove_76 rfl ?_
      have ht15 : 16 ≤ t + 1 := by rcases Nat.lt_or_ge (t + 1) (16) with h9 | h9; exact absurd c1 (by rw [ex]; exact nI_ge (b := 16) h9 (by omega)); exact h9
      have : t = 15 := by omega
      subst this
      exact ⟨rfl, _, rfl, rfl, Or.inr (Or.inr ⟨j, c, ea, hj1, hj, hj0, hC0, congrArg Sum.inl ez⟩)⟩
    · have ht15 : t + 1 < 16 := by rcases Nat.lt_or_ge (t + 1) (16) with h9 | h9; exact h9; exact absurd (by rw [ex]; exact nI_le (a := 16) h9 (by omega)) c1
      refine v_iload_n 0 d_Fi_remove_44 rfl rfl rfl ?_
      refine v_iload_n 3 d_Fi_remove_45 rfl rfl rfl ?_
      refine v_icmp_eq (tgt := 61) d_Fi_remove_46 (by decide) rfl (fun c2 => ?_) (fun c2 => ?_)
      · refine v_aload_n 2 d_Fi_remove_61 rfl rfl rfl ?_
        refine v_iload_n 0 d_Fi_remove_62 rfl rfl rfl ?_
        refine v_cVu (as := [.int x]) d_Fi_remove_63 cs_Fi_103 (c_Fi_removeOne hC hS (d := d - 1) (j := t + 1) ht15 ex hm1 h21 (by omega)) (hS.o (by decide) rfl) (by decide) rfl rfl rfl (by decide) (by omega) rfl (fun I1 hr => ?_)
        obtain ⟨x3, ex3⟩ : ∃ y : Int32, y = z + 1 := ⟨_, rfl⟩
        have nx3 : x3 = nI (c + 1) := by rw [ex3, show z = nI c from ez]; exact nI_1 _
        refine v_iinc (n := 1) (v := x3) (L' := [(2, .int x3), (3, .int x), (0, .ref 0), (1, .int a)]) d_Fi_remove_66 rfl (by rw [ex3]; rfl) (by decide) rfl rfl ?_
        obtain ⟨x4, ex4⟩ : ∃ y : Int32, y = x + 1 := ⟨_, rfl⟩
        have nx4 : x4 = nI ((t + 1) + 1) := by rw [ex4, show x = nI (t + 1) from ex]; exact nI_1 _
        refine v_iinc (n := 1) (v := x4) (L' := [(3, .int x4), (2, .int x3), (0, .ref 0), (1, .int a)]) d_Fi_remove_69 rfl (by rw [ex4]; rfl) (by decide) rfl rfl ?_
        refine v_goto (tgt := 38) d_Fi_remove_72 (by decide) ?_
        exact ih (t + 1) (c + 1) _ _ _ nx4 nx3 (by omega) (by omega) ⟨c, I, hC0, Or.inl ⟨Or.inl (nI_inj (by omega) (by omega) (by have h9 := c2; rw [ex, ea] at h9; exact h9)), hr, rfl⟩⟩
      · refine v_aload_n 2 d_Fi_remove_49 rfl rfl rfl ?_
        refine v_getr (r := 1) d_Fi_remove_50 fl_Fi_10 (hS.o (by decide) rfl) rfl (hS.r (by decide) rfl) rfl ?_
        refine v_iload_n 0 d_Fi_remove_53 rfl rfl rfl ?_
        refine v_iload_n 3 d_Fi_remove_54 rfl rfl rfl ?_
        refine v_cVp (as := [.int x, .int a]) d_Fi_remove_55 cs_Fi_99 (by rw [ea, ex]; exact c_Tr_isWithin hC hS (d := d - 1) (by rw [h3]; exact hP) (nI (t + 1)) (nI j) (by omega)) (hS.o (by decide) rfl) (by decide) rfl rfl rfl (by decide) (by omega) rfl ?_
        rw [ndS_j ht15, nI_clamp (by omega)]
        refine v_if_eq (tgt := 69) d_Fi_remove_58 (by decide) rfl (fun c5 => ?_) (fun c5 => ?_)
        · obtain ⟨x6, ex6⟩ : ∃ y : Int32, y = x + 1 := ⟨_, rfl⟩
          have nx6 : x6 = nI ((t + 1) + 1) := by rw [ex6, show x = nI (t + 1) from ex]; exact nI_1 _
          refine v_iinc (n := 0) (v := x6) (L' := [(3, .int x6), (2, .int z), (0, .ref 0), (1, .int a)]) d_Fi_remove_69 rfl (by rw [ex6]; rfl) (by decide) rfl rfl ?_
          refine v_goto (tgt := 38) d_Fi_remove_72 (by decide) ?_
          refine ih (t + 1) c _ _ _ nx6 ez (by omega) (by omega) ⟨c, I, hC0, Or.inr ⟨?_, rfl, rfl⟩⟩
          rintro (h9 | h9)
          · exact c2 (by rw [ex, ea, h9])
          · rw [h9] at c5; exact absurd c5 (by decide)
        · refine v_aload_n 2 d_Fi_remove_61 rfl rfl rfl ?_
          refine v_iload_n 0 d_Fi_remove_62 rfl rfl rfl ?_
          refine v_cVu (as := [.int x]) d_Fi_remove_63 cs_Fi_103 (c_Fi_removeOne hC hS (d := d - 1) (j := t + 1) ht15 ex hm1 h21 (by omega)) (hS.o (by decide) rfl) (by decide) rfl rfl rfl (by decide) (by omega) rfl (fun I1 hr => ?_)
          obtain ⟨x7, ex7⟩ : ∃ y : Int32, y = z + 1 := ⟨_, rfl⟩
          have nx7 : x7 = nI (c + 1) := by rw [ex7, show z = nI c from ez]; exact nI_1 _
          refine v_iinc (n := 1) (v := x7) (L' := [(2, .int x7), (3, .int x), (0, .ref 0), (1, .int a)]) d_Fi_remove_66 rfl (by rw [ex7]; rfl) (by decide) rfl rfl ?_
          obtain ⟨x8, ex8⟩ : ∃ y : Int32, y = x + 1 := ⟨_, rfl⟩
          have nx8 : x8 = nI ((t + 1) + 1) := by rw [ex8, show x = nI (t + 1) from ex]; exact nI_1 _
          refine v_iinc (n := 1) (v := x8) (L' := [(3, .int x8), (2, .int x7), (0, .ref 0), (1, .int a)]) d_Fi_remove_69 rfl (by rw [ex8]; rfl) (by decide) rfl rfl ?_
          refine v_goto (tgt := 38) d_Fi_remove_72 (by decide) ?_
          exact ih (t + 1) (c + 1) _ _ _ nx8 nx7 (by omega) (by omega) ⟨c, I, hC0, Or.inl ⟨Or.inr (bI_t c5), hr, rfl⟩⟩
set_option maxHeartbeats 4000000 in
set_option maxRecDepth 100000 in
theorem c_Fi_remove {C : CT} {l : Launch} {S : ShT} {I : DI} {J : DJ} {d : Nat} (hC : OKC C l) (hS : SHP S) {m : Nat} {a : Int32} (hm : m ≤ 8) (h2 : I 22 2 = nI m) (hP : ∀ i, i < 16 → ∃ j, j < 16 ∧ I 3 i = nI j) (hd : 6 ≤ d) : Sp C l k_Fi_remove y_Fi_remove (d, 1, 6) [.ref 0, .int a] S I J (FP S (RvQ I J a)) := by
  refine Sp.of hC cd_Fi_remove (Nat.le_of_ble_eq_true rfl) ?_
  show V C l k_Fi_remove (d, 1, 6) _ 0 [(0, .ref 0), (1, .int a)] [] S I J (0, 0)
  refine v_iload_n 1 d_Fi_remove_0 rfl rfl rfl ?_
  refine v_cSp (as := [.int a]) d_Fi_remove_1 cs_Fi_48 (c_Fi_isNodeBelowRoot hC (d := d - 1) a (by omega)) rfl rfl (by decide) (by omega) rfl ?_
  refine v_if_ne (tgt := 15) d_Fi_remove_4 (by decide) rfl (fun c1 => ?_) (fun c1 => ?_)
  · refine v_aload_n 0 d_Fi_remove_15 rfl rfl rfl ?_
    refine v_getr (r := 1) d_Fi_remove_16 fl_Fi_10 (hS.o (by decide) rfl) rfl (hS.r (by decide) rfl) rfl ?_
    refine v_iload_n 1 d_Fi_remove_19 rfl rfl rfl ?_
    refine v_cVp (as := [.int a]) d_Fi_remove_20 cs_Fi_58 (c_Tr_isThere hC hS (d := d - 1) a (by omega)) (hS.o (by decide) rfl) (by decide) rfl rfl rfl (by decide) (by omega) rfl ?_
    refine v_if_ne (tgt := 34) d_Fi_remove_23 (by decide) rfl (fun c2 => ?_) (fun c2 => ?_)
    · obtain ⟨j, hj1, hj, ea⟩ := isNb_j (bI_t c1)
      have hj0 : ¬ I 2 j = 0 := by have h9 := bn_t c2; rw [ea, ndS_j hj] at h9; exact h9
      refine v_iconst (v := 0) d_Fi_remove_34 (by decide) rfl ?_
      refine v_istore_n (L' := [(2, .int 0), (0, .ref 0), (1, .int a)]) d_Fi_remove_35 rfl (by decide) rfl rfl ?_
      refine v_iconst (v := 1) d_Fi_remove_36 (by decide) rfl ?_
      refine v_istore_n (L' := [(3, .int 1), (2, .int 0), (0, .ref 0), (1, .int a)]) d_Fi_remove_37 rfl (by decide) rfl rfl ?_
      exact lp_Fi_remove hC hS hd hm h2 hP ea hj1 hj hj0 16 0 0 I _ _ rfl rfl (by omega) (by omega) ⟨rfl, rfl⟩
    · refine v_throw (ci := 11) (by decide) d_Fi_remove_26 d_Fi_remove_29 d_Fi_remove_30 d_Fi_remove_33 wl_Fi_78 wn_Ne wi_Ne wx_Fi_80 rfl (by omega) ⟨Nat.le_of_ble_eq_true rfl, Nat.le_of_ble_eq_true rfl⟩ ?_
      exact ⟨rfl, I, J, rfl, rfl, rfl, Or.inr (Or.inl ⟨bI_t c1, bn_f c2, rfl, rfl⟩)⟩
  · refine v_throw (ci := 9) (by decide) d_Fi_remove_7 d_Fi_remove_10 d_Fi_remove_11 d_Fi_remove_14 wl_Fi_55 wn_Ea wi_Ea wx_Fi_57 rfl (by omega) ⟨Nat.le_of_ble_eq_true rfl, Nat.le_of_ble_eq_true rfl⟩ ?_
    exact ⟨rfl, I, J, rfl, rfl, rfl, Or.inl ⟨bI_f c1, rfl, rfl⟩⟩
