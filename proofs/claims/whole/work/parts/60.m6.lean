/-! ===== THE MODEL, 6: work, rescan ===== -/
theorem RdM.fr {I I' : DI} {J J' : DJ} {j : Nat} (h : RdM I J j I' J') : (∀ b, b ≠ 124 → b ≠ 133 → b ≠ 134 → b ≠ 136 → b ≠ 137 → I' b = I b) ∧ (∀ i, i ≠ 11 → I' 124 i = I 124 i) ∧ ∀ b, b ≠ 135 → J' b = J b := by
  obtain ⟨m, I1, h1, h2, ⟨r1, r2, r3, r4, r5⟩, rfl⟩ := h
  exact ⟨fun b b1 b2 b3 b4 b5 => by rw [u2_o b1, u2_o b2, u2_o b3, r2 b b4 b5], fun i hi => by rw [u2_n (Or.inr hi), u2_o (by decide), u2_o (by decide), r2 124 (by decide) (by decide)], r4⟩
def FlM (I : DI) (J : DJ) (k : Int32) (j : Nat) (I' : DI) (J' : DJ) : Prop := (k = 3 ∧ J' = J ∧ I' = u2 I 133 j 0) ∨ (¬ k = 3 ∧ RdM I J j I' J')
theorem FlM.fr {I I' : DI} {J J' : DJ} {k : Int32} {j : Nat} (h : FlM I J k j I' J') : (∀ b, b ≠ 124 → b ≠ 133 → b ≠ 134 → b ≠ 136 → b ≠ 137 → I' b = I b) ∧ (∀ i, i ≠ 11 → I' 124 i = I 124 i) ∧ ∀ b, b ≠ 135 → J' b = J b := by
  rcases h with ⟨_, rfl, rfl⟩ | ⟨_, h⟩
  · exact ⟨fun b _ b1 _ _ _ => u2_o b1, fun i _ => by rw [u2_o (by decide)], fun _ _ => rfl⟩
  · exact h.fr
def WkMC (I0 : DI) (J0 : DJ) (m : Nat) : Nat → DI → DJ → Prop
  | 0, I, J => I = I0 ∧ J = J0
  | t + 1, I, J => ∃ I1 J1 I2 j, WkMC I0 J0 m t I1 J1 ∧ I1 132 0 = nI j ∧ j < 16 ∧ FlM I1 J1 (I1 131 0) j I2 J ∧ DqM I2 0 (m - (t + 1)) I
theorem WkMC.inv {I0 : DI} {J0 : DJ} {m : Nat} (h2 : I0 124 9 = nI m) : ∀ (t : Nat) (I : DI) (J : DJ), t ≤ m → WkMC I0 J0 m t I J → I 124 9 = nI (m - t) ∧ (∀ i, i < m - t → I 131 i = I0 131 (i + t) ∧ I 132 i = I0 132 (i + t)) ∧ (∀ i, i ≠ 9 → i ≠ 11 → I 124 i = I0 124 i) ∧ (∀ b, b ≠ 124 → b ≠ 131 → b ≠ 132 → b ≠ 133 → b ≠ 134 → b ≠ 136 → b ≠ 137 → I b = I0 b) ∧ ∀ b, b ≠ 135 → J b = J0 b := by
  intro t
  induction t with
  | zero => rintro I J _ ⟨rfl, rfl⟩; exact ⟨h2, fun _ _ => ⟨rfl, rfl⟩, fun _ _ _ => rfl, fun _ _ _ _ _ _ _ _ => rfl, fun _ _ => rfl⟩
  | succ t ih =>
    rintro I J ht ⟨I1, J1, I2, j, w1, w2, w3, w4, w5⟩
    obtain ⟨g1, g2, g3, g4, g5⟩ := ih I1 J1 (by omega) w1
    obtain ⟨f1, f2, f3⟩ := w4.fr
    obtain ⟨d1, d2, d3, d4, d5⟩ := w5
    refine ⟨d1, fun i hi => ?_, fun i hi hi2 => by rw [d2 i hi, f2 i hi2, g3 i hi hi2], fun b b1 b2 b3 b4 b5 b6 b7 => by rw [d5 b b1 b2 b3, f1 b b1 b4 b5 b6 b7, g4 b b1 b2 b3 b4 b5 b6 b7], fun b hb => by rw [f3 b hb, g5 b hb]⟩
    rw [d3, d4, f1 131 (by decide) (by decide) (by decide) (by decide) (by decide), f1 132 (by decide) (by decide) (by decide) (by decide) (by decide)]
    have := g2 (i + 1) (by omega)
    simp only [shf, if_pos (show 0 ≤ i ∧ i < m - (t + 1) from ⟨Nat.zero_le _, hi⟩)]
    rw [this.1, this.2, show i + 1 + t = i + (t + 1) by omega]
    exact ⟨rfl, rfl⟩
def WkM (I : DI) (J : DJ) (m : Nat) (n : Int32) (r : Int32) (I' : DI) (J' : DJ) : Prop :=
  ((n < 1 ∨ 8 < n) ∧ r = 0 ∧ I' = u2 I 124 0 1 ∧ J' = J) ∨
  (∃ k, n = nI k ∧ 1 ≤ k ∧ k ≤ 8 ∧ ((¬ I 124 10 = 0 ∧ r = 0 ∧ I' = u2 I 124 0 2 ∧ J' = J) ∨ (I 124 10 = 0 ∧ r = nI (min k m) ∧ WkMC I J m (min k m) I' J')))
set_option maxHeartbeats 4000000 in
set_option maxRecDepth 100000 in
theorem lp_Md_work {C : CT} {l : Launch} {S : ShT} {d : Nat} (hC : OKC C l) (hS : SHP S) (hd : 2 ≤ d) {I0 : DI} {J0 : DJ} {n : Int32} {m k : Nat} (hm : m ≤ 8) (h2 : I0 124 9 = nI m) (hL : ∀ i, i < 16 → ∃ q, q ≤ 60 ∧ I0 129 i = nI q) (hQ : ∀ i, i < m → ∃ j, j < 16 ∧ I0 132 i = nI j) (en : n = nI k) (hk1 : 1 ≤ k) (hk8 : k ≤ 8) (hl0 : I0 124 10 = 0) : ∀ (n0 : Nat) (t : Nat) (I : DI) (J : DJ) (x : Int32), x = nI t → t ≤ min k m → min k m < t + n0 → WkMC I0 J0 m t I J → V C l k_Md_work (d, 0, 0) (PJ S (WkM I0 J0 m n)) 36 [(2, .int x), (0, .ref 124), (1, .int n)] [] S I J (0, 0) := by
  intro n0
  induction n0 with
  | zero =>
    intro t I J x ex ht0 hf hw
    omega
  | succ n0 ih =>
    intro t I J x ex ht0 hf hw
    obtain ⟨g1, g2, g3, g4, g5⟩ := WkMC.inv h2 t I J (by omega) hw
    refine v_iload_n 0 d_Md_work_36 rfl rfl rfl ?_
    refine v_iload_n 2 d_Md_work_37 rfl rfl rfl ?_
    refine v_icmp_ge (tgt := 91) d_Md_work_38 (by decide) rfl (fun c1 => ?_) (fun c1 => ?_)
    · refine v_iload_n 0 d_Md_work_91 rfl rfl rfl ?_
      refine v_iret d_Md_work_92 rfl ?_
      have htk : k ≤ t := by rcases Nat.lt_or_ge t k with h9 | h9; exact absurd c1 (by rw [ex, en]; exact nI_ge h9 (by omega)); exact h9
      have htw2 : t = min k m := by omega
      exact ⟨rfl, _, rfl, Or.inr ⟨k, en, hk1, hk8, Or.inr ⟨hl0, htw2 ▸ ex, htw2 ▸ hw⟩⟩⟩
    · have htk : t < k := by rcases Nat.lt_or_ge t k with h9 | h9; exact h9; exact absurd (by rw [ex, en]; exact nI_le h9 (by omega)) c1
      refine v_aload_n 1 d_Md_work_41 rfl rfl rfl ?_
      refine v_geti d_Md_work_42 fl_Md_92 (hS.o (by decide) rfl) rfl rfl ?_
      refine v_if_le (tgt := 91) d_Md_work_45 (by decide) rfl (fun c2 => ?_) (fun c2 => ?_)
      · refine v_iload_n 0 d_Md_work_91 rfl rfl rfl ?_
        refine v_iret d_Md_work_92 rfl ?_
        have htm : m ≤ t := by rcases Nat.lt_or_ge t m with h9 | h9; exact absurd c2 (by rw [g1]; exact nI_ge (a := 0) (by omega) (by omega)); exact h9
        have htw2 : t = min k m := by omega
        exact ⟨rfl, _, rfl, Or.inr ⟨k, en, hk1, hk8, Or.inr ⟨hl0, htw2 ▸ ex, htw2 ▸ hw⟩⟩⟩
      · have htm : t < m := by rcases Nat.lt_or_ge t m with h9 | h9; exact h9; exact absurd (by rw [g1, show m - t = 0 by omega]; decide) c2
        obtain ⟨j, hj, ej0⟩ := hQ t htm
        have ej : I 132 0 = nI j := by rw [(g2 0 (by omega)).2, Nat.zero_add]; exact ej0
        obtain ⟨q, hq6, hlq0⟩ := hL j hj
        have hlq : I 129 j = nI q := by rw [g4 129 (by decide) (by decide) (by decide) (by decide) (by decide) (by decide) (by decide)]; exact hlq0
        refine v_aload_n 1 d_Md_work_48 rfl rfl rfl ?_
        refine v_getr (r := 132) d_Md_work_49 fl_Md_32 (hS.o (by decide) rfl) rfl (hS.r (by decide) rfl) rfl ?_
        refine v_iconst (v := 0) d_Md_work_52 (by decide) rfl ?_
        refine v_iald (j := 0) d_Md_work_53 (hS.a (t := 32) (n := 8) (by decide) rfl) rfl (by omega) (by decide) rfl ?_
        refine v_istore_n (L' := [(3, .int (I 132 0)), (2, .int x), (0, .ref 124), (1, .int n)]) d_Md_work_54 rfl (by decide) rfl rfl ?_
        refine v_aload_n 2 d_Md_work_55 rfl rfl rfl ?_
        refine v_getr (r := 131) d_Md_work_56 fl_Md_29 (hS.o (by decide) rfl) rfl (hS.r (by decide) rfl) rfl ?_
        refine v_iconst (v := 0) d_Md_work_59 (by decide) rfl ?_
        refine v_iald (j := 0) d_Md_work_60 (hS.a (t := 32) (n := 8) (by decide) rfl) rfl (by omega) (by decide) rfl ?_
        refine v_iconst (v := 3) d_Md_work_61 (by decide) rfl ?_
        refine v_icmp_ne (tgt := 75) d_Md_work_62 (by decide) rfl (fun c3 => ?_) (fun c3 => ?_)
        · refine v_aload_n 2 d_Md_work_75 rfl rfl rfl ?_
          refine v_iload_n 0 d_Md_work_76 rfl rfl rfl ?_
          refine v_cVw (as := [.int (I 132 0)]) d_Md_work_77 cs_Md_135 (c_Md_read hC hS (d := d - 1) (j := j) (m := q) hj ej hlq hq6 (by omega)) (hS.o (by decide) rfl) (by decide) rfl rfl rfl (by decide) (by omega) rfl (fun I1 J1 hrd => ?_)
          have hf1 : FlM I J (I 131 0) j I1 J1 := Or.inr ⟨c3, hrd⟩
          refine v_aload_n 2 d_Md_work_80 rfl rfl rfl ?_
          refine v_iconst (v := 0) d_Md_work_81 (by decide) rfl ?_
          refine v_cVu (as := [.int 0]) d_Md_work_82 cs_Md_103 (c_Md_drop hC hS (d := d - 1) (p := 0) (m := m - (t + 1)) (by omega) (by omega) (by rw [hf1.fr.2.1 9 (by decide), g1, show m - t = m - (t + 1) + 1 by omega]) (by omega)) (hS.o (by decide) rfl) (by decide) rfl rfl rfl (by decide) (by omega) rfl (fun I2 hd1 => ?_)
          obtain ⟨x4, ex4⟩ : ∃ y : Int32, y = x + 1 := ⟨_, rfl⟩
          have nx4 : x4 = nI (t + 1) := by rw [ex4, show x = nI t from ex]; exact nI_1 _
          refine v_iinc (n := 1) (v := x4) (L' := [(2, .int x4), (3, .int (I 132 0)), (0, .ref 124), (1, .int n)]) d_Md_work_85 rfl (by rw [ex4]; rfl) (by decide) rfl rfl ?_
          refine v_goto (tgt := 36) d_Md_work_88 (by decide) ?_
          refine v_sub (L' := [(2, .int x4), (0, .ref 124), (1, .int n)]) [0, 2, 3] rfl ?_
          exact ih (t + 1) _ _ _ nx4 (by omega) (by omega) ⟨I, J, I1, j, hw, ej, hj, hf1, hd1⟩
        · refine v_aload_n 2 d_Md_work_65 rfl rfl rfl ?_
          refine v_getr (r := 133) d_Md_work_66 fl_Md_35 (hS.o (by decide) rfl) rfl (hS.r (by decide) rfl) rfl ?_
          refine v_iload_n 0 d_Md_work_69 rfl rfl rfl ?_
          refine v_iconst (v := 0) d_Md_work_70 (by decide) rfl ?_
          refine v_zast (j := j) d_Md_work_71 (hS.a (t := 33) (n := 16) (by decide) rfl) ej (by omega) (by decide) (Or.inl rfl) rfl ?_
          generalize hI5 : u2 I 133 j 0 = I5
          refine v_goto (tgt := 80) d_Md_work_72 (by decide) ?_
          have hf1 : FlM I J (I 131 0) j I5 J := Or.inl ⟨c3, rfl, hI5.symm⟩
          refine v_aload_n 2 d_Md_work_80 rfl rfl rfl ?_
          refine v_iconst (v := 0) d_Md_work_81 (by decide) rfl ?_
          refine v_cVu (as := [.int 0]) d_Md_work_82 cs_Md_103 (c_Md_drop hC hS (d := d - 1) (p := 0) (m := m - (t + 1)) (by omega) (by omega) (by rw [hf1.fr.2.1 9 (by decide), g1, show m - t = m - (t + 1) + 1 by omega]) (by omega)) (hS.o (by decide) rfl) (by decide) rfl rfl rfl (by decide) (by omega) rfl (fun I2 hd1 => ?_)
          obtain ⟨x6, ex6⟩ : ∃ y : Int32, y = x + 1 := ⟨_, rfl⟩
          have nx6 : x6 = nI (t + 1) := by rw [ex6, show x = nI t from ex]; exact nI_1 _
          refine v_iinc (n := 1) (v := x6) (L' := [(2, .int x6), (3, .int (I 132 0)), (0, .ref 124), (1, .int n)]) d_Md_work_85 rfl (by rw [ex6]; rfl) (by decide) rfl rfl ?_
          refine v_goto (tgt := 36) d_Md_work_88 (by decide) ?_
          refine v_sub (L' := [(2, .int x6), (0, .ref 124), (1, .int n)]) [0, 2, 3] rfl ?_
          exact ih (t + 1) _ _ _ nx6 (by omega) (by omega) ⟨I, J, I5, j, hw, ej, hj, hf1, hd1⟩
set_option maxHeartbeats 4000000 in
set_option maxRecDepth 100000 in
theorem b_Md_work {C : CT} {l : Launch} {S : ShT} {I : DI} {J : DJ} {d : Nat} (hC : OKC C l) (hS : SHP S) {m : Nat} {n : Int32} (hm : m ≤ 8) (h2 : I 124 9 = nI m) (hL : ∀ i, i < 16 → ∃ q, q ≤ 60 ∧ I 129 i = nI q) (hQ : ∀ i, i < m → ∃ j, j < 16 ∧ I 132 i = nI j) (hd : 2 ≤ d) : V C l k_Md_work (d, 0, 0) (PJ S (WkM I J m n)) 5 [(0, .ref 124), (1, .int n)] [] S I J (0, 0) := by
  refine v_iload_n 1 d_Md_work_5 rfl rfl rfl ?_
  refine v_iconst (v := 1) d_Md_work_6 (by decide) rfl ?_
  refine v_bipush (v := 8) d_Md_work_7 (by decide) rfl ?_
  refine v_cSp (as := [.int n, .int 1, .int 8]) d_Md_work_9 cs_Md_88 (c_Md_in hC (d := d - 1) n 1 8 (by omega)) rfl rfl (by decide) (by omega) rfl ?_
  refine v_if_ne (tgt := 21) d_Md_work_12 (by decide) rfl (fun c1 => ?_) (fun c1 => ?_)
  · have hin := bI_t c1
    simp only [inB, Bool.and_eq_true, Bool.not_eq_true', decide_eq_false_iff_not] at hin
    obtain ⟨k, hk1, hk8, en⟩ := i_1to (m := 8) hin.1 hin.2 (by omega)
    refine v_aload_n 0 d_Md_work_21 rfl rfl rfl ?_
    refine v_geti d_Md_work_22 fl_Md_95 (hS.o (by decide) rfl) rfl rfl ?_
    refine v_if_eq (tgt := 34) d_Md_work_25 (by decide) rfl (fun c2 => ?_) (fun c2 => ?_)
    · refine v_iconst (v := 0) d_Md_work_34 (by decide) rfl ?_
      refine v_istore_n (L' := [(2, .int 0), (0, .ref 124), (1, .int n)]) d_Md_work_35 rfl (by decide) rfl rfl ?_
      exact lp_Md_work hC hS hd hm h2 hL hQ en hk1 hk8 c2 (min k m + 1) 0 I J _ rfl (by omega) (by omega) ⟨rfl, rfl⟩
    · refine v_aload_n 0 d_Md_work_28 rfl rfl rfl ?_
      refine v_iconst (v := 2) d_Md_work_29 (by decide) rfl ?_
      refine v_cVi (as := [.int 2]) d_Md_work_30 cs_Md_107 (c_Md_raise hC hS (d := d - 1) 2 (by omega)) (hS.o (by decide) rfl) (by decide) rfl rfl rfl (by decide) (by omega) rfl (fun xr Ir hr => ?_)
      refine v_iret d_Md_work_33 rfl ?_
      exact ⟨rfl, _, rfl, Or.inr ⟨k, en, hk1, hk8, Or.inl ⟨c2, hr.1, hr.2, rfl⟩⟩⟩
  · refine v_aload_n 0 d_Md_work_15 rfl rfl rfl ?_
    refine v_iconst (v := 1) d_Md_work_16 (by decide) rfl ?_
    refine v_cVi (as := [.int 1]) d_Md_work_17 cs_Md_107 (c_Md_raise hC hS (d := d - 1) 1 (by omega)) (hS.o (by decide) rfl) (by decide) rfl rfl rfl (by decide) (by omega) rfl (fun xr Ir hr => ?_)
    refine v_iret d_Md_work_20 rfl ?_
    have hin := bI_f c1
    simp only [inB, Bool.and_eq_false_iff, Bool.not_eq_false', decide_eq_true_eq] at hin
    exact ⟨rfl, _, rfl, Or.inl ⟨hin, hr.1, hr.2, rfl⟩⟩
set_option maxHeartbeats 4000000 in
set_option maxRecDepth 100000 in
theorem c_Md_work {C : CT} {l : Launch} {S : ShT} {I0 I : DI} {J : DJ} {d : Nat} (hC : OKC C l) (hS : SHP S) (hI0 : I = u2 I0 124 0 0) {m : Nat} {n : Int32} (hm : m ≤ 8) (h2 : I 124 9 = nI m) (hL : ∀ i, i < 16 → ∃ q, q ≤ 60 ∧ I 129 i = nI q) (hQ : ∀ i, i < m → ∃ j, j < 16 ∧ I 132 i = nI j) (hd : 2 ≤ d) : Sp C l k_Md_work y_Md_work (d, 0, 0) [.ref 124, .int n] S I0 J (PJ S (WkM I J m n)) := by
  refine Sp.of hC cd_Md_work (Nat.le_of_ble_eq_true rfl) ?_
  show V C l k_Md_work (d, 0, 0) _ 0 [(0, .ref 124), (1, .int n)] [] S I0 J (0, 0)
  refine v_aload_n 0 d_Md_work_0 rfl rfl rfl ?_
  refine v_iconst (v := 0) d_Md_work_1 (by decide) rfl ?_
  refine v_puti d_Md_work_2 fl_Md_85 (hS.o (by decide) rfl) rfl rfl rfl ?_
  rw [← hI0]
  exact b_Md_work hC hS hm h2 hL hQ hd
def RcMC (I0 : DI) (J0 : DJ) : Nat → Nat → DI → DJ → Prop
  | 0, c, I, J => c = 0 ∧ I = I0 ∧ J = J0
  | t + 1, c, I, J => ∃ c0 I1 J1, RcMC I0 J0 t c0 I1 J1 ∧ ((mst I0 t = 2 ∧ RdM (u2 I1 133 t 0) J1 t I J ∧ c = c0 + 1) ∨ (¬ mst I0 t = 2 ∧ I = u2 I1 133 t 0 ∧ J = J1 ∧ c = c0))
theorem RcMC.inv {I0 : DI} {J0 : DJ} : ∀ (t c : Nat) (I : DI) (J : DJ), RcMC I0 J0 t c I J → c ≤ t ∧ (∀ b, b ≠ 124 → b ≠ 133 → b ≠ 134 → b ≠ 136 → b ≠ 137 → I b = I0 b) ∧ (∀ i, i ≠ 11 → I 124 i = I0 124 i) ∧ ∀ b, b ≠ 135 → J b = J0 b := by
  intro t
  induction t with
  | zero => rintro c I J ⟨rfl, rfl, rfl⟩; exact ⟨Nat.le_refl _, fun _ _ _ _ _ _ => rfl, fun _ _ => rfl, fun _ _ => rfl⟩
  | succ t ih =>
    rintro c I J ⟨c0, I1, J1, h1, h3⟩
    obtain ⟨g1, g2, g3, g4⟩ := ih c0 I1 J1 h1
    rcases h3 with ⟨_, q2, q3⟩ | ⟨_, q2, q3, q4⟩
    · obtain ⟨k1, k2, k3⟩ := q2.fr
      exact ⟨by omega, fun b b1 b2 b3 b4 b5 => by rw [k1 b b1 b2 b3 b4 b5, u2_o b2, g2 b b1 b2 b3 b4 b5], fun i hi => by rw [k2 i hi, u2_o (by decide), g3 i hi], fun b hb => by rw [k3 b hb, g4 b hb]⟩
    · rw [q2, q3]; exact ⟨by omega, fun b b1 b2 b3 b4 b5 => by rw [u2_o b2, g2 b b1 b2 b3 b4 b5], fun i hi => by rw [u2_o (by decide), g3 i hi], g4⟩
def RcM (I : DI) (J : DJ) (x : Int32) (I' : DI) (J' : DJ) : Prop := ∃ c I1, c ≤ 16 ∧ RcMC I J 16 c I1 J' ∧ x = nI c ∧ I' = u2 (u2 I1 124 10 0) 124 9 0
set_option maxHeartbeats 4000000 in
set_option maxRecDepth 100000 in
theorem lp_Md_rescan {C : CT} {l : Launch} {S : ShT} {d : Nat} (hC : OKC C l) (hS : SHP S) (hd : 2 ≤ d) {I0 : DI} {J0 : DJ} (hL : ∀ i, i < 16 → ∃ q, q ≤ 60 ∧ I0 129 i = nI q) : ∀ (n0 : Nat) (t c : Nat) (I : DI) (J : DJ) (x z : Int32), x = nI t → z = nI c → t ≤ 16 → 16 < t + n0 → RcMC I0 J0 t c I J → V C l k_Md_rescan (d, 0, 0) (PJ S (RcM I0 J0)) 9 [(2, .int x), (1, .int z), (0, .ref 124)] [] S I J (0, 0) := by
  intro n0
  induction n0 with
  | zero =>
    intro t c I J x z ex ez ht0 hf hw
    omega
  | succ n0 ih =>
    intro t c I J x z ex ez ht0 hf hw
    obtain ⟨g1, g2, g3, g4⟩ := RcMC.inv t c I J hw
    refine v_iload_n 0 d_Md_rescan_9 rfl rfl rfl ?_
    refine v_bipush (v := 16) d_Md_rescan_10 (by decide) rfl ?_
    refine v_icmp_ge (tgt := 47) d_Md_rescan_12 (by decide) rfl (fun c1 => ?_) (fun c1 => ?_)
    · refine v_aload_n 2 d_Md_rescan_47 rfl rfl rfl ?_
      refine v_iconst (v := 0) d_Md_rescan_48 (by decide) rfl ?_
      refine v_putz d_Md_rescan_49 fl_Md_95 (hS.o (by decide) rfl) rfl rfl (Or.inl rfl) rfl ?_
      generalize hI2 : u2 I 124 10 0 = I2
      refine v_aload_n 2 d_Md_rescan_52 rfl rfl rfl ?_
      refine v_iconst (v := 0) d_Md_rescan_53 (by decide) rfl ?_
      refine v_puti d_Md_rescan_54 fl_Md_92 (hS.o (by decide) rfl) rfl rfl rfl ?_
      generalize hI3 : u2 I2 124 9 0 = I3
      refine v_iload_n 1 d_Md_rescan_57 rfl rfl rfl ?_
      refine v_iret d_Md_rescan_58 rfl ?_
      have ht16 : 16 ≤ t := by rcases Nat.lt_or_ge (t) (16) with h9 | h9; exact absurd c1 (by rw [ex]; exact nI_ge (b := 16) h9 (by omega)); exact h9
      have htw2 : t = 16 := by omega
      subst htw2
      exact ⟨rfl, _, rfl, c, I, g1, hw, ez, by rw [← hI3, ← hI2]⟩
    · have ht16 : t < 16 := by rcases Nat.lt_or_ge (t) (16) with h9 | h9; exact h9; exact absurd (by rw [ex]; exact nI_le (a := 16) h9 (by omega)) c1
      obtain ⟨q, hq6, hlq0⟩ := hL t ht16
      have hlq : I 129 t = nI q := by rw [g2 129 (by decide) (by decide) (by decide) (by decide) (by decide)]; exact hlq0
      refine v_aload_n 2 d_Md_rescan_15 rfl rfl rfl ?_
      refine v_getr (r := 133) d_Md_rescan_16 fl_Md_35 (hS.o (by decide) rfl) rfl (hS.r (by decide) rfl) rfl ?_
      refine v_iload_n 0 d_Md_rescan_19 rfl rfl rfl ?_
      refine v_iconst (v := 0) d_Md_rescan_20 (by decide) rfl ?_
      refine v_zast (j := t) d_Md_rescan_21 (hS.a (t := 33) (n := 16) (by decide) rfl) ex (by omega) (by decide) (Or.inl rfl) rfl ?_
      generalize hI4 : u2 I 133 t 0 = I4
      refine v_aload_n 2 d_Md_rescan_22 rfl rfl rfl ?_
      refine v_iload_n 0 d_Md_rescan_23 rfl rfl rfl ?_
      refine v_cVp (as := [.int x]) d_Md_rescan_24 cs_Md_119 (by rw [ex]; exact c_Md_isFile hC hS (d := d - 1) (nI t) (by omega)) (hS.o (by decide) rfl) (by decide) rfl rfl rfl (by decide) (by omega) rfl ?_
      rw [mdS_j ht16, show mst I4 t = mst I0 t by unfold mst; rw [← hI4, u2_o (by decide), u2_o (by decide), g2 125 (by decide) (by decide) (by decide) (by decide) (by decide), g2 126 (by decide) (by decide) (by decide) (by decide) (by decide)]]
      refine v_if_ne (tgt := 33) d_Md_rescan_27 (by decide) rfl (fun c5 => ?_) (fun c5 => ?_)
      · refine v_aload_n 2 d_Md_rescan_33 rfl rfl rfl ?_
        refine v_iload_n 0 d_Md_rescan_34 rfl rfl rfl ?_
        refine v_cVw (as := [.int x]) d_Md_rescan_35 cs_Md_135 (c_Md_read hC hS (d := d - 1) (j := t) (m := q) ht16 ex (by rw [← hI4, u2_o (by decide)]; exact hlq) hq6 (by omega)) (hS.o (by decide) rfl) (by decide) rfl rfl rfl (by decide) (by omega) rfl (fun I1 J1 hrd => ?_)
        obtain ⟨x6, ex6⟩ : ∃ y : Int32, y = z + 1 := ⟨_, rfl⟩
        have nx6 : x6 = nI (c + 1) := by rw [ex6, show z = nI c from ez]; exact nI_1 _
        refine v_iinc (n := 1) (v := x6) (L' := [(1, .int x6), (2, .int x), (0, .ref 124)]) d_Md_rescan_38 rfl (by rw [ex6]; rfl) (by decide) rfl rfl ?_
        obtain ⟨x7, ex7⟩ : ∃ y : Int32, y = x + 1 := ⟨_, rfl⟩
        have nx7 : x7 = nI (t + 1) := by rw [ex7, show x = nI t from ex]; exact nI_1 _
        refine v_iinc (n := 1) (v := x7) (L' := [(2, .int x7), (1, .int x6), (0, .ref 124)]) d_Md_rescan_41 rfl (by rw [ex7]; rfl) (by decide) rfl rfl ?_
        refine v_goto (tgt := 9) d_Md_rescan_44 (by decide) ?_
        exact ih (t + 1) (c + 1) _ _ _ _ nx7 nx6 (by omega) (by omega) ⟨c, I, J, hw, Or.inl ⟨bd_t c5, hI4 ▸ hrd, rfl⟩⟩
      · refine v_goto (tgt := 41) d_Md_rescan_30 (by decide) ?_
        obtain ⟨x8, ex8⟩ : ∃ y : Int32, y = x + 1 := ⟨_, rfl⟩
        have nx8 : x8 = nI (t + 1) := by rw [ex8, show x = nI t from ex]; exact nI_1 _
        refine v_iinc (n := 0) (v := x8) (L' := [(2, .int x8), (1, .int z), (0, .ref 124)]) d_Md_rescan_41 rfl (by rw [ex8]; rfl) (by decide) rfl rfl ?_
        refine v_goto (tgt := 9) d_Md_rescan_44 (by decide) ?_
        exact ih (t + 1) c _ _ _ _ nx8 ez (by omega) (by omega) ⟨c, I, J, hw, Or.inr ⟨bd_f c5, hI4.symm, rfl, rfl⟩⟩
set_option maxHeartbeats 4000000 in
set_option maxRecDepth 100000 in
theorem b_Md_rescan {C : CT} {l : Launch} {S : ShT} {I : DI} {J : DJ} {d : Nat} (hC : OKC C l) (hS : SHP S) (hL : ∀ i, i < 16 → ∃ q, q ≤ 60 ∧ I 129 i = nI q) (hd : 2 ≤ d) : V C l k_Md_rescan (d, 0, 0) (PJ S (RcM I J)) 5 [(0, .ref 124)] [] S I J (0, 0) := by
  refine v_iconst (v := 0) d_Md_rescan_5 (by decide) rfl ?_
  refine v_istore_n (L' := [(1, .int 0), (0, .ref 124)]) d_Md_rescan_6 rfl (by decide) rfl rfl ?_
  refine v_iconst (v := 0) d_Md_rescan_7 (by decide) rfl ?_
  refine v_istore_n (L' := [(2, .int 0), (1, .int 0), (0, .ref 124)]) d_Md_rescan_8 rfl (by decide) rfl rfl ?_
  exact lp_Md_rescan hC hS hd hL 17 0 0 I J _ _ rfl rfl (by omega) (by omega) ⟨rfl, rfl, rfl⟩
set_option maxHeartbeats 4000000 in
set_option maxRecDepth 100000 in
theorem c_Md_rescan {C : CT} {l : Launch} {S : ShT} {I0 I : DI} {J : DJ} {d : Nat} (hC : OKC C l) (hS : SHP S) (hI0 : I = u2 I0 124 0 0) (hL : ∀ i, i < 16 → ∃ q, q ≤ 60 ∧ I 129 i = nI q) (hd : 2 ≤ d) : Sp C l k_Md_rescan y_Md_rescan (d, 0, 0) [.ref 124] S I0 J (PJ S (RcM I J)) := by
  refine Sp.of hC cd_Md_rescan (Nat.le_of_ble_eq_true rfl) ?_
  show V C l k_Md_rescan (d, 0, 0) _ 0 [(0, .ref 124)] [] S I0 J (0, 0)
  refine v_aload_n 0 d_Md_rescan_0 rfl rfl rfl ?_
  refine v_iconst (v := 0) d_Md_rescan_1 (by decide) rfl ?_
  refine v_puti d_Md_rescan_2 fl_Md_85 (hS.o (by decide) rfl) rfl rfl rfl ?_
  rw [← hI0]
  exact b_Md_rescan hC hS hL hd
