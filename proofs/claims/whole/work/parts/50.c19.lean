/-! ===== the face, 1 ===== -/
/-- how a method of the face ends -/
def FP (S : ShT) (Q : Int32 ⊕ Nat → DI → DJ → Prop) : PoT := fun r S' I' J' => match r with
  | .inl v => S' = S ∧ ∃ x, v = some (.int x) ∧ Q (.inl x) I' J'
  | .inr c => S' = ad1 S (c, 0) ∧ ∃ I1 J1, I' = zf I1 S.1 0 ∧ J' = zf J1 S.1 0 ∧ Q (.inr c) I1 J1
theorem bn_f {p : Prop} [Decidable p] (h : bI (!decide p) = 0) : p := by by_cases q : p; exact q; rw [decide_eq_false q] at h; exact absurd h (by decide)
theorem bn_t {p : Prop} [Decidable p] (h : ¬ bI (!decide p) = 0) : ¬ p := by intro q; rw [decide_eq_true q] at h; exact h rfl
theorem bd_f {p : Prop} [Decidable p] (h : bI (decide p) = 0) : ¬ p := by intro q; rw [decide_eq_true q] at h; exact absurd h (by decide)
theorem bd_t {p : Prop} [Decidable p] (h : ¬ bI (decide p) = 0) : p := by by_cases q : p; exact q; rw [decide_eq_false q] at h; exact absurd rfl h
theorem isNb_j {x : Int32} (h : isNb x = true) : ∃ j : Nat, 1 ≤ j ∧ j < 16 ∧ x = nI j := by
  simp only [isNb, Bool.and_eq_true, Bool.not_eq_true', decide_eq_false_iff_not] at h
  rcases pk_ix x (n := 16) (by decide) with h1 | h1 | ⟨j, h1, rfl⟩
  · exact absurd (Int32.lt_trans h1 (by decide)) h.1
  · exact absurd h1 h.2
  · refine ⟨j, ?_, h1, rfl⟩
    rcases Nat.lt_or_ge j 1 with h2 | h2
    · exact absurd (nI_lt (b := 1) h2 (by decide)) h.1
    · exact h2
theorem isNb_nI {j : Nat} (h1 : 1 ≤ j) (h : j < 16) : isNb (nI j) = true := by
  simp only [isNb, Bool.and_eq_true, Bool.not_eq_true', decide_eq_false_iff_not]
  exact ⟨Int32.not_lt.mpr (nI_le (a := 1) h1 (by omega)), nI_ge h (by decide)⟩
theorem ndS_ex {I : DI} {x y : Int32} (h : ndS I x = y) (hy : ¬ y = 0) : ∃ j : Nat, j < 16 ∧ x = nI j ∧ I 2 j = y := by
  cases hx : isNd x with
  | false => rw [ndS_n hx] at h; exact absurd h.symm hy
  | true =>
    obtain ⟨j, h1, rfl⟩ := isNd_j hx
    exact ⟨j, h1, rfl, by rw [← h, ndS_j h1]⟩
theorem i_0le {x : Int32} {m : Nat} (h0 : ¬ x < 0) (h1 : x ≤ nI m) (hm : m < 1000) : ∃ k : Nat, k ≤ m ∧ x = nI k := by
  rcases pk_ix x (n := m + 1) (by omega) with h2 | h2 | ⟨k, h2, rfl⟩
  · exact absurd h2 h0
  · exact absurd (Int32.le_trans h2 h1) (nI_ge (by omega) (by omega))
  · exact ⟨k, by omega, rfl⟩
def mk1 (I : DI) (j k : Nat) (p : Bool) : DI := u2 (u2 (u2 I 2 j (if p then 1 else 2)) 3 j (nI k)) 21 j 0
def MkQ (I : DI) (J : DJ) (a b : Int32) (p : Bool) (r : Int32 ⊕ Nat) (I' : DI) (J' : DJ) : Prop := J' = J ∧ (
  ((isNb a = false ∨ isNd b = false) ∧ r = .inr 9 ∧ I' = I) ∨
  (isNb a = true ∧ isNd b = true ∧ (¬ ndS I a = 0 ∨ ¬ ndS I b = 1) ∧ r = .inr 10 ∧ I' = I) ∨
  (∃ j k, a = nI j ∧ 1 ≤ j ∧ j < 16 ∧ b = nI k ∧ k < 16 ∧ I 2 j = 0 ∧ I 2 k = 1 ∧ r = .inl 1 ∧ ((p = true ∧ I' = mk1 I j k p) ∨ (p = false ∧ Tl (mk1 I j k p) (nI j) 1 I'))))
set_option maxHeartbeats 4000000 in
set_option maxRecDepth 100000 in
theorem c_Fi_make {C : CT} {l : Launch} {S : ShT} {I : DI} {J : DJ} {d : Nat} (hC : OKC C l) (hS : SHP S) {m : Nat} {a b : Int32} {p : Bool} (hm : m ≤ 8) (h2 : I 22 2 = nI m) (hd : 6 ≤ d) : Sp C l k_Fi_make y_Fi_make (d, 1, 6) [.ref 0, .int a, .int b, .int (bI p)] S I J (FP S (MkQ I J a b p)) := by
  refine Sp.of hC cd_Fi_make (Nat.le_of_ble_eq_true rfl) ?_
  show V C l k_Fi_make (d, 1, 6) _ 0 [(0, .ref 0), (1, .int a), (2, .int b), (3, .int (bI p))] [] S I J (0, 0)
  refine v_iload_n 1 d_Fi_make_0 rfl rfl rfl ?_
  refine v_cSp (as := [.int a]) d_Fi_make_1 cs_Fi_48 (c_Fi_isNodeBelowRoot hC (d := d - 1) a (by omega)) rfl rfl (by decide) (by omega) rfl ?_
  refine v_if_eq (tgt := 14) d_Fi_make_4 (by decide) rfl (fun c1 => ?_) (fun c1 => ?_)
  · refine v_throw (ci := 9) (by decide) d_Fi_make_14 d_Fi_make_17 d_Fi_make_18 d_Fi_make_21 wl_Fi_55 wn_Ea wi_Ea wx_Fi_57 rfl (by omega) ⟨Nat.le_of_ble_eq_true rfl, Nat.le_of_ble_eq_true rfl⟩ ?_
    exact ⟨rfl, I, J, rfl, rfl, rfl, Or.inl ⟨Or.inl (bI_f c1), rfl, rfl⟩⟩
  · refine v_iload_n 2 d_Fi_make_7 rfl rfl rfl ?_
    refine v_cSp (as := [.int b]) d_Fi_make_8 cs_Fi_52 (c_Fi_isNode hC (d := d - 1) b (by omega)) rfl rfl (by decide) (by omega) rfl ?_
    refine v_if_ne (tgt := 22) d_Fi_make_11 (by decide) rfl (fun c2 => ?_) (fun c2 => ?_)
    · have hnb := bI_t c1
      have hnd := bI_t c2
      obtain ⟨j, hj1, hj, ea⟩ := isNb_j hnb
      obtain ⟨k, hk, eb⟩ := isNd_j hnd
      refine v_aload_n 0 d_Fi_make_22 rfl rfl rfl ?_
      refine v_getr (r := 1) d_Fi_make_23 fl_Fi_10 (hS.o (by decide) rfl) rfl (hS.r (by decide) rfl) rfl ?_
      refine v_iload_n 1 d_Fi_make_26 rfl rfl rfl ?_
      refine v_cVp (as := [.int a]) d_Fi_make_27 cs_Fi_58 (c_Tr_isThere hC hS (d := d - 1) a (by omega)) (hS.o (by decide) rfl) (by decide) rfl rfl rfl (by decide) (by omega) rfl ?_
      refine v_if_ne (tgt := 44) d_Fi_make_30 (by decide) rfl (fun c3 => ?_) (fun c3 => ?_)
      · refine v_throw (ci := 10) (by decide) d_Fi_make_44 d_Fi_make_47 d_Fi_make_48 d_Fi_make_51 wl_Fi_64 wn_Es wi_Es wx_Fi_66 rfl (by omega) ⟨Nat.le_of_ble_eq_true rfl, Nat.le_of_ble_eq_true rfl⟩ ?_
        exact ⟨rfl, I, J, rfl, rfl, rfl, Or.inr (Or.inl ⟨hnb, hnd, Or.inl (bn_t c3), rfl, rfl⟩)⟩
      · refine v_aload_n 0 d_Fi_make_33 rfl rfl rfl ?_
        refine v_getr (r := 1) d_Fi_make_34 fl_Fi_10 (hS.o (by decide) rfl) rfl (hS.r (by decide) rfl) rfl ?_
        refine v_iload_n 2 d_Fi_make_37 rfl rfl rfl ?_
        refine v_cVp (as := [.int b]) d_Fi_make_38 cs_Fi_61 (c_Tr_isFolder hC hS (d := d - 1) b (by omega)) (hS.o (by decide) rfl) (by decide) rfl rfl rfl (by decide) (by omega) rfl ?_
        refine v_if_ne (tgt := 52) d_Fi_make_41 (by decide) rfl (fun c4 => ?_) (fun c4 => ?_)
        · have hj0 : I 2 j = 0 := by have h9 := bn_f c3; rw [ea, ndS_j hj] at h9; exact h9
          have hk1 : I 2 k = 1 := by have h9 := bd_t c4; rw [eb, ndS_j hk] at h9; exact h9
          refine v_aload_n 0 d_Fi_make_52 rfl rfl rfl ?_
          refine v_getr (r := 1) d_Fi_make_53 fl_Fi_10 (hS.o (by decide) rfl) rfl (hS.r (by decide) rfl) rfl ?_
          refine v_iload_n 1 d_Fi_make_56 rfl rfl rfl ?_
          refine v_iload_n 2 d_Fi_make_57 rfl rfl rfl ?_
          refine v_iload_n 3 d_Fi_make_58 rfl rfl rfl ?_
          refine v_cVu (as := [.int a, .int b, .int (bI p)]) d_Fi_make_59 cs_Fi_67 (by rw [ea, eb]; exact c_Tr_put hC hS (d := d - 1) (j := j) (k := k) hj p (by omega)) (hS.o (by decide) rfl) (by decide) rfl rfl rfl (by decide) (by omega) rfl (fun I1 h1 => ?_)
          refine v_iload_n 3 d_Fi_make_62 rfl rfl rfl ?_
          refine v_if_ne (tgt := 75) d_Fi_make_63 (by decide) rfl (fun c5 => ?_) (fun c5 => ?_)
          · refine v_iconst (v := 1) d_Fi_make_75 (by decide) rfl ?_
            refine v_iret d_Fi_make_76 rfl ?_
            exact ⟨rfl, _, rfl, rfl, Or.inr (Or.inr ⟨j, k, ea, hj1, hj, eb, hk, hj0, hk1, rfl, Or.inl ⟨bI_t c5, h1⟩⟩)⟩
          · refine v_aload_n 0 d_Fi_make_66 rfl rfl rfl ?_
            refine v_getr (r := 22) d_Fi_make_67 fl_Fi_19 (hS.o (by decide) rfl) rfl (hS.r (by decide) rfl) rfl ?_
            refine v_iload_n 1 d_Fi_make_70 rfl rfl rfl ?_
            refine v_iconst (v := 1) d_Fi_make_71 (by decide) rfl ?_
            refine v_cVu (as := [.int a, .int 1]) d_Fi_make_72 cs_Fi_71 (by rw [ea]; exact ct_tell hC hS (d := d - 1) hm (by rw [h1, u2_o (by decide), u2_o (by decide), u2_o (by decide)]; exact h2) (nI j) 1 (by omega)) (hS.o (by decide) rfl) (by decide) rfl rfl rfl (by decide) (by omega) rfl (fun I2 ht => ?_)
            refine v_iconst (v := 1) d_Fi_make_75 (by decide) rfl ?_
            refine v_iret d_Fi_make_76 rfl ?_
            exact ⟨rfl, _, rfl, rfl, Or.inr (Or.inr ⟨j, k, ea, hj1, hj, eb, hk, hj0, hk1, rfl, Or.inr ⟨bI_f c5, (show I1 = mk1 I j k p from h1) ▸ ht⟩⟩)⟩
        · refine v_throw (ci := 10) (by decide) d_Fi_make_44 d_Fi_make_47 d_Fi_make_48 d_Fi_make_51 wl_Fi_64 wn_Es wi_Es wx_Fi_66 rfl (by omega) ⟨Nat.le_of_ble_eq_true rfl, Nat.le_of_ble_eq_true rfl⟩ ?_
          exact ⟨rfl, I, J, rfl, rfl, rfl, Or.inr (Or.inl ⟨hnb, hnd, Or.inr (bd_f c4), rfl, rfl⟩)⟩
    · refine v_throw (ci := 9) (by decide) d_Fi_make_14 d_Fi_make_17 d_Fi_make_18 d_Fi_make_21 wl_Fi_55 wn_Ea wi_Ea wx_Fi_57 rfl (by omega) ⟨Nat.le_of_ble_eq_true rfl, Nat.le_of_ble_eq_true rfl⟩ ?_
      exact ⟨rfl, I, J, rfl, rfl, rfl, Or.inl ⟨Or.inr (bI_f c2), rfl, rfl⟩⟩
def CtQ (I : DI) (J : DJ) (a n : Int32) (r : Int32 ⊕ Nat) (I' : DI) (J' : DJ) : Prop := J' = J ∧ (
  (¬ ndS I a = 2 ∧ r = .inr 11 ∧ I' = I) ∨
  (∃ j m, a = nI j ∧ j < 16 ∧ I 2 j = 2 ∧ I 21 j = nI m ∧ m ≤ 60 ∧ (((n < 0 ∨ ¬ n ≤ nI m) ∧ r = .inr 9 ∧ I' = I) ∨
    (∃ k, n = nI k ∧ k ≤ m ∧ r = .inl (nI (m - k)) ∧ ((k = m ∧ I' = I) ∨ (k < m ∧ Tl (u2 I 21 j (nI k)) (nI j) 2 I'))))))
set_option maxHeartbeats 4000000 in
set_option maxRecDepth 100000 in
theorem c_Fi_cut {C : CT} {l : Launch} {S : ShT} {I : DI} {J : DJ} {d : Nat} (hC : OKC C l) (hS : SHP S) {m : Nat} {a n : Int32} (hm : m ≤ 8) (h2 : I 22 2 = nI m) (hL : ∀ i, i < 16 → ∃ q, q ≤ 60 ∧ I 21 i = nI q) (hd : 6 ≤ d) : Sp C l k_Fi_cut y_Fi_cut (d, 1, 6) [.ref 0, .int a, .int n] S I J (FP S (CtQ I J a n)) := by
  refine Sp.of hC cd_Fi_cut (Nat.le_of_ble_eq_true rfl) ?_
  show V C l k_Fi_cut (d, 1, 6) _ 0 [(0, .ref 0), (1, .int a), (2, .int n)] [] S I J (0, 0)
  refine v_aload_n 0 d_Fi_cut_0 rfl rfl rfl ?_
  refine v_getr (r := 1) d_Fi_cut_1 fl_Fi_10 (hS.o (by decide) rfl) rfl (hS.r (by decide) rfl) rfl ?_
  refine v_iload_n 1 d_Fi_cut_4 rfl rfl rfl ?_
  refine v_cVp (as := [.int a]) d_Fi_cut_5 cs_Fi_75 (c_Tr_isFile hC hS (d := d - 1) a (by omega)) (hS.o (by decide) rfl) (by decide) rfl rfl rfl (by decide) (by omega) rfl ?_
  refine v_if_ne (tgt := 19) d_Fi_cut_8 (by decide) rfl (fun c1 => ?_) (fun c1 => ?_)
  · obtain ⟨j, hj, ea, hj2⟩ := ndS_ex (bd_t c1) (by decide)
    obtain ⟨q, hq6, hlj⟩ := hL j hj
    refine v_iload_n 2 d_Fi_cut_19 rfl rfl rfl ?_
    refine v_if_lt (tgt := 35) d_Fi_cut_20 (by decide) rfl (fun c2 => ?_) (fun c2 => ?_)
    · refine v_throw (ci := 9) (by decide) d_Fi_cut_35 d_Fi_cut_38 d_Fi_cut_39 d_Fi_cut_42 wl_Fi_55 wn_Ea wi_Ea wx_Fi_57 rfl (by omega) ⟨Nat.le_of_ble_eq_true rfl, Nat.le_of_ble_eq_true rfl⟩ ?_
      exact ⟨rfl, I, J, rfl, rfl, rfl, Or.inr ⟨j, q, ea, hj, hj2, hlj, hq6, Or.inl ⟨Or.inl c2, rfl, rfl⟩⟩⟩
    · refine v_iload_n 2 d_Fi_cut_23 rfl rfl rfl ?_
      refine v_aload_n 0 d_Fi_cut_24 rfl rfl rfl ?_
      refine v_getr (r := 1) d_Fi_cut_25 fl_Fi_10 (hS.o (by decide) rfl) rfl (hS.r (by decide) rfl) rfl ?_
      refine v_iload_n 1 d_Fi_cut_28 rfl rfl rfl ?_
      refine v_cVp (as := [.int a]) d_Fi_cut_29 cs_Fi_85 (by have h9 := c_Tr_lengthOf (C := C) (l := l) (S := S) (I := I) (J := J) hC hS (d := d - 1) (j := j) (by omega) (by omega); rw [← show a = nI j from ea] at h9; exact h9) (hS.o (by decide) rfl) (by decide) rfl rfl rfl (by simp [Value.category]) (by omega) rfl ?_
      refine v_icmp_le (tgt := 43) d_Fi_cut_32 (by decide) rfl (fun c3 => ?_) (fun c3 => ?_)
      · obtain ⟨k, hkq, en⟩ := i_0le c2 (by have h9 := c3; rw [hlj] at h9; exact h9) (by omega)
        refine v_aload_n 0 d_Fi_cut_43 rfl rfl rfl ?_
        refine v_getr (r := 1) d_Fi_cut_44 fl_Fi_10 (hS.o (by decide) rfl) rfl (hS.r (by decide) rfl) rfl ?_
        refine v_iload_n 1 d_Fi_cut_47 rfl rfl rfl ?_
        refine v_cVp (as := [.int a]) d_Fi_cut_48 cs_Fi_85 (by have h9 := c_Tr_lengthOf (C := C) (l := l) (S := S) (I := I) (J := J) hC hS (d := d - 1) (j := j) (by omega) (by omega); rw [← show a = nI j from ea] at h9; exact h9) (hS.o (by decide) rfl) (by decide) rfl rfl rfl (by decide) (by omega) rfl ?_
        refine v_iload_n 2 d_Fi_cut_51 rfl rfl rfl ?_
        refine v_isub d_Fi_cut_52 rfl ?_
        refine v_nmi (fun z4 ez4 => ?_)
        have nz4 : z4 = nI (q - k) := by rw [ez4, show I 21 j = nI q from hlj, show n = nI k from en]; exact pk_sub (by omega)
        refine v_istore_n (L' := [(3, .int z4), (0, .ref 0), (1, .int a), (2, .int n)]) d_Fi_cut_53 rfl (by decide) rfl rfl ?_
        refine v_iload_n 0 d_Fi_cut_54 rfl rfl rfl ?_
        refine v_if_le (tgt := 76) d_Fi_cut_55 (by decide) rfl (fun c5 => ?_) (fun c5 => ?_)
        · refine v_iload_n 0 d_Fi_cut_76 rfl rfl rfl ?_
          refine v_iret d_Fi_cut_77 rfl ?_
          exact ⟨rfl, _, rfl, rfl, Or.inr ⟨j, q, ea, hj, hj2, hlj, hq6, Or.inr ⟨k, en, hkq, congrArg Sum.inl nz4, Or.inl ⟨by rcases Nat.lt_or_ge k q with h9 | h9; exact absurd c5 (by rw [nz4]; exact nI_ge (b := q - k) (a := 0) (by omega) (by omega)); omega, rfl⟩⟩⟩⟩
        · refine v_aload_n 1 d_Fi_cut_58 rfl rfl rfl ?_
          refine v_getr (r := 1) d_Fi_cut_59 fl_Fi_10 (hS.o (by decide) rfl) rfl (hS.r (by decide) rfl) rfl ?_
          refine v_iload_n 2 d_Fi_cut_62 rfl rfl rfl ?_
          refine v_iload_n 3 d_Fi_cut_63 rfl rfl rfl ?_
          refine v_cVu (as := [.int a, .int n]) d_Fi_cut_64 cs_Fi_96 (by rw [ea, en]; exact c_Tr_shorten hC hS (d := d - 1) (j := j) (k := k) hj (by omega)) (hS.o (by decide) rfl) (by decide) rfl rfl rfl (by decide) (by omega) rfl (fun I1 h1 => ?_)
          refine v_aload_n 1 d_Fi_cut_67 rfl rfl rfl ?_
          refine v_getr (r := 22) d_Fi_cut_68 fl_Fi_19 (hS.o (by decide) rfl) rfl (hS.r (by decide) rfl) rfl ?_
          refine v_iload_n 2 d_Fi_cut_71 rfl rfl rfl ?_
          refine v_iconst (v := 2) d_Fi_cut_72 (by decide) rfl ?_
          refine v_cVu (as := [.int a, .int 2]) d_Fi_cut_73 cs_Fi_71 (by rw [ea]; exact ct_tell hC hS (d := d - 1) hm (by rw [h1, u2_o (by decide)]; exact h2) (nI j) 2 (by omega)) (hS.o (by decide) rfl) (by decide) rfl rfl rfl (by decide) (by omega) rfl (fun I2 ht => ?_)
          refine v_iload_n 0 d_Fi_cut_76 rfl rfl rfl ?_
          refine v_iret d_Fi_cut_77 rfl ?_
          exact ⟨rfl, _, rfl, rfl, Or.inr ⟨j, q, ea, hj, hj2, hlj, hq6, Or.inr ⟨k, en, hkq, congrArg Sum.inl nz4, Or.inr ⟨by rcases Nat.lt_or_ge k q with h9 | h9; exact h9; exact absurd (by rw [nz4, show q - k = 0 by omega]; decide) c5, (show I1 = _ from h1) ▸ ht⟩⟩⟩⟩
      · refine v_throw (ci := 9) (by decide) d_Fi_cut_35 d_Fi_cut_38 d_Fi_cut_39 d_Fi_cut_42 wl_Fi_55 wn_Ea wi_Ea wx_Fi_57 rfl (by omega) ⟨Nat.le_of_ble_eq_true rfl, Nat.le_of_ble_eq_true rfl⟩ ?_
        exact ⟨rfl, I, J, rfl, rfl, rfl, Or.inr ⟨j, q, ea, hj, hj2, hlj, hq6, Or.inl ⟨Or.inr (by have h9 := c3; rw [hlj] at h9; exact h9), rfl, rfl⟩⟩⟩
  · refine v_throw (ci := 11) (by decide) d_Fi_cut_11 d_Fi_cut_14 d_Fi_cut_15 d_Fi_cut_18 wl_Fi_78 wn_Ne wi_Ne wx_Fi_80 rfl (by omega) ⟨Nat.le_of_ble_eq_true rfl, Nat.le_of_ble_eq_true rfl⟩ ?_
    exact ⟨rfl, I, J, rfl, rfl, rfl, Or.inl ⟨bd_f c1, rfl, rfl⟩⟩
def MvQ (I : DI) (J : DJ) (a b : Int32) (r : Int32 ⊕ Nat) (I' : DI) (J' : DJ) : Prop := J' = J ∧ (
  ((isNb a = false ∨ isNd b = false) ∧ r = .inr 9 ∧ I' = I) ∨
  (isNb a = true ∧ isNd b = true ∧ (ndS I a = 0 ∨ ¬ ndS I b = 1) ∧ r = .inr 11 ∧ I' = I) ∨
  (∃ j k, a = nI j ∧ 1 ≤ j ∧ j < 16 ∧ b = nI k ∧ k < 16 ∧ ¬ I 2 j = 0 ∧ I 2 k = 1 ∧ (
    ((b = a ∨ wup (I 3) (nI j) 16 k = true) ∧ r = .inr 10 ∧ I' = I) ∨
    (¬ b = a ∧ wup (I 3) (nI j) 16 k = false ∧ ((I 3 j = nI k ∧ r = .inl 0 ∧ I' = I) ∨ (¬ I 3 j = nI k ∧ r = .inl 1 ∧ I' = u2 I 3 j (nI k)))))))
set_option maxHeartbeats 4000000 in
set_option maxRecDepth 100000 in
theorem c_Fi_move {C : CT} {l : Launch} {S : ShT} {I : DI} {J : DJ} {d : Nat} (hC : OKC C l) (hS : SHP S) {a b : Int32} (hP : ∀ i, i < 16 → ∃ j, j < 16 ∧ I 3 i = nI j) (hd : 6 ≤ d) : Sp C l k_Fi_move y_Fi_move (d, 1, 6) [.ref 0, .int a, .int b] S I J (FP S (MvQ I J a b)) := by
  refine Sp.of hC cd_Fi_move (Nat.le_of_ble_eq_true rfl) ?_
  show V C l k_Fi_move (d, 1, 6) _ 0 [(0, .ref 0), (1, .int a), (2, .int b)] [] S I J (0, 0)
  refine v_iload_n 1 d_Fi_move_0 rfl rfl rfl ?_
  refine v_cSp (as := [.int a]) d_Fi_move_1 cs_Fi_48 (c_Fi_isNodeBelowRoot hC (d := d - 1) a (by omega)) rfl rfl (by decide) (by omega) rfl ?_
  refine v_if_eq (tgt := 14) d_Fi_move_4 (by decide) rfl (fun c1 => ?_) (fun c1 => ?_)
  · refine v_throw (ci := 9) (by decide) d_Fi_move_14 d_Fi_move_17 d_Fi_move_18 d_Fi_move_21 wl_Fi_55 wn_Ea wi_Ea wx_Fi_57 rfl (by omega) ⟨Nat.le_of_ble_eq_true rfl, Nat.le_of_ble_eq_true rfl⟩ ?_
    exact ⟨rfl, I, J, rfl, rfl, rfl, Or.inl ⟨Or.inl (bI_f c1), rfl, rfl⟩⟩
  · refine v_iload_n 2 d_Fi_move_7 rfl rfl rfl ?_
    refine v_cSp (as := [.int b]) d_Fi_move_8 cs_Fi_52 (c_Fi_isNode hC (d := d - 1) b (by omega)) rfl rfl (by decide) (by omega) rfl ?_
    refine v_if_ne (tgt := 22) d_Fi_move_11 (by decide) rfl (fun c2 => ?_) (fun c2 => ?_)
    · have hnb := bI_t c1
      have hnd := bI_t c2
      obtain ⟨j, hj1, hj, ea⟩ := isNb_j hnb
      obtain ⟨k, hk, eb⟩ := isNd_j hnd
      refine v_aload_n 0 d_Fi_move_22 rfl rfl rfl ?_
      refine v_getr (r := 1) d_Fi_move_23 fl_Fi_10 (hS.o (by decide) rfl) rfl (hS.r (by decide) rfl) rfl ?_
      refine v_iload_n 1 d_Fi_move_26 rfl rfl rfl ?_
      refine v_cVp (as := [.int a]) d_Fi_move_27 cs_Fi_58 (c_Tr_isThere hC hS (d := d - 1) a (by omega)) (hS.o (by decide) rfl) (by decide) rfl rfl rfl (by decide) (by omega) rfl ?_
      refine v_if_eq (tgt := 44) d_Fi_move_30 (by decide) rfl (fun c3 => ?_) (fun c3 => ?_)
      · refine v_throw (ci := 11) (by decide) d_Fi_move_44 d_Fi_move_47 d_Fi_move_48 d_Fi_move_51 wl_Fi_78 wn_Ne wi_Ne wx_Fi_80 rfl (by omega) ⟨Nat.le_of_ble_eq_true rfl, Nat.le_of_ble_eq_true rfl⟩ ?_
        exact ⟨rfl, I, J, rfl, rfl, rfl, Or.inr (Or.inl ⟨hnb, hnd, Or.inl (bn_f c3), rfl, rfl⟩)⟩
      · refine v_aload_n 0 d_Fi_move_33 rfl rfl rfl ?_
        refine v_getr (r := 1) d_Fi_move_34 fl_Fi_10 (hS.o (by decide) rfl) rfl (hS.r (by decide) rfl) rfl ?_
        refine v_iload_n 2 d_Fi_move_37 rfl rfl rfl ?_
        refine v_cVp (as := [.int b]) d_Fi_move_38 cs_Fi_61 (c_Tr_isFolder hC hS (d := d - 1) b (by omega)) (hS.o (by decide) rfl) (by decide) rfl rfl rfl (by decide) (by omega) rfl ?_
        refine v_if_ne (tgt := 52) d_Fi_move_41 (by decide) rfl (fun c4 => ?_) (fun c4 => ?_)
        · have hj0 : ¬ I 2 j = 0 := by have h9 := bn_t c3; rw [ea, ndS_j hj] at h9; exact h9
          have hk1 : I 2 k = 1 := by have h9 := bd_t c4; rw [eb, ndS_j hk] at h9; exact h9
          refine v_iload_n 2 d_Fi_move_52 rfl rfl rfl ?_
          refine v_iload_n 1 d_Fi_move_53 rfl rfl rfl ?_
          refine v_icmp_eq (tgt := 69) d_Fi_move_54 (by decide) rfl (fun c5 => ?_) (fun c5 => ?_)
          · refine v_throw (ci := 10) (by decide) d_Fi_move_69 d_Fi_move_72 d_Fi_move_73 d_Fi_move_76 wl_Fi_64 wn_Es wi_Es wx_Fi_66 rfl (by omega) ⟨Nat.le_of_ble_eq_true rfl, Nat.le_of_ble_eq_true rfl⟩ ?_
            exact ⟨rfl, I, J, rfl, rfl, rfl, Or.inr (Or.inr ⟨j, k, ea, hj1, hj, eb, hk, hj0, hk1, Or.inl ⟨Or.inl c5, rfl, rfl⟩⟩)⟩
          · refine v_aload_n 0 d_Fi_move_57 rfl rfl rfl ?_
            refine v_getr (r := 1) d_Fi_move_58 fl_Fi_10 (hS.o (by decide) rfl) rfl (hS.r (by decide) rfl) rfl ?_
            refine v_iload_n 2 d_Fi_move_61 rfl rfl rfl ?_
            refine v_iload_n 1 d_Fi_move_62 rfl rfl rfl ?_
            refine v_cVp (as := [.int b, .int a]) d_Fi_move_63 cs_Fi_99 (c_Tr_isWithin hC hS (d := d - 1) hP b a (by omega)) (hS.o (by decide) rfl) (by decide) rfl rfl rfl (by decide) (by omega) rfl ?_
            rw [show (!decide (ndS I b = 0) && wup (I 3) a 16 b.toNatClampNeg) = wup (I 3) (nI j) 16 k from by rw [eb, ndS_j hk, hk1, ea, nI_clamp (by omega)]; rfl]
            refine v_if_eq (tgt := 77) d_Fi_move_66 (by decide) rfl (fun c6 => ?_) (fun c6 => ?_)
            · refine v_aload_n 0 d_Fi_move_77 rfl rfl rfl ?_
              refine v_getr (r := 1) d_Fi_move_78 fl_Fi_10 (hS.o (by decide) rfl) rfl (hS.r (by decide) rfl) rfl ?_
              refine v_iload_n 1 d_Fi_move_81 rfl rfl rfl ?_
              refine v_cVp (as := [.int a]) d_Fi_move_82 cs_Fi_107 (by have h9 := c_Tr_parentOf (C := C) (l := l) (S := S) (I := I) (J := J) hC hS (d := d - 1) (j := j) (by omega) (by omega); rw [← show a = nI j from ea] at h9; exact h9) (hS.o (by decide) rfl) (by decide) rfl rfl rfl (by decide) (by omega) rfl ?_
              refine v_iload_n 2 d_Fi_move_85 rfl rfl rfl ?_
              refine v_icmp_ne (tgt := 91) d_Fi_move_86 (by decide) rfl (fun c7 => ?_) (fun c7 => ?_)
              · refine v_aload_n 0 d_Fi_move_91 rfl rfl rfl ?_
                refine v_getr (r := 1) d_Fi_move_92 fl_Fi_10 (hS.o (by decide) rfl) rfl (hS.r (by decide) rfl) rfl ?_
                refine v_iload_n 1 d_Fi_move_95 rfl rfl rfl ?_
                refine v_iload_n 2 d_Fi_move_96 rfl rfl rfl ?_
                refine v_cVu (as := [.int a, .int b]) d_Fi_move_97 cs_Fi_110 (by rw [ea, eb]; exact c_Tr_hang hC hS (d := d - 1) (j := j) (k := k) hj (by omega)) (hS.o (by decide) rfl) (by decide) rfl rfl rfl (by decide) (by omega) rfl (fun I1 h1 => ?_)
                refine v_iconst (v := 1) d_Fi_move_100 (by decide) rfl ?_
                refine v_iret d_Fi_move_101 rfl ?_
                exact ⟨rfl, _, rfl, rfl, Or.inr (Or.inr ⟨j, k, ea, hj1, hj, eb, hk, hj0, hk1, Or.inr ⟨c5, bI_f c6, Or.inr ⟨by have h9 := c7; rw [eb] at h9; exact h9, rfl, h1⟩⟩⟩)⟩
              · refine v_iconst (v := 0) d_Fi_move_89 (by decide) rfl ?_
                refine v_iret d_Fi_move_90 rfl ?_
                exact ⟨rfl, _, rfl, rfl, Or.inr (Or.inr ⟨j, k, ea, hj1, hj, eb, hk, hj0, hk1, Or.inr ⟨c5, bI_f c6, Or.inl ⟨by have h9 := c7; rw [eb] at h9; exact h9, rfl, rfl⟩⟩⟩)⟩
            · refine v_throw (ci := 10) (by decide) d_Fi_move_69 d_Fi_move_72 d_Fi_move_73 d_Fi_move_76 wl_Fi_64 wn_Es wi_Es wx_Fi_66 rfl (by omega) ⟨Nat.le_of_ble_eq_true rfl, Nat.le_of_ble_eq_true rfl⟩ ?_
              exact ⟨rfl, I, J, rfl, rfl, rfl, Or.inr (Or.inr ⟨j, k, ea, hj1, hj, eb, hk, hj0, hk1, Or.inl ⟨Or.inr (bI_t c6), rfl, rfl⟩⟩)⟩
        · refine v_throw (ci := 11) (by decide) d_Fi_move_44 d_Fi_move_47 d_Fi_move_48 d_Fi_move_51 wl_Fi_78 wn_Ne wi_Ne wx_Fi_80 rfl (by omega) ⟨Nat.le_of_ble_eq_true rfl, Nat.le_of_ble_eq_true rfl⟩ ?_
          exact ⟨rfl, I, J, rfl, rfl, rfl, Or.inr (Or.inl ⟨hnb, hnd, Or.inr (bd_f c4), rfl, rfl⟩)⟩
    · refine v_throw (ci := 9) (by decide) d_Fi_move_14 d_Fi_move_17 d_Fi_move_18 d_Fi_move_21 wl_Fi_55 wn_Ea wi_Ea wx_Fi_57 rfl (by omega) ⟨Nat.le_of_ble_eq_true rfl, Nat.le_of_ble_eq_true rfl⟩ ?_
      exact ⟨rfl, I, J, rfl, rfl, rfl, Or.inl ⟨Or.inr (bI_f c2), rfl, rfl⟩⟩
def TyQ (I : DI) (J : DJ) (n : Nat) (x : Int32) (r : Int32 ⊕ Nat) (I' : DI) (J' : DJ) : Prop := J' = J ∧ (
  (isCd x = false ∧ r = .inr 9 ∧ I' = I) ∨ (isCd x = true ∧ n = 40 ∧ r = .inr 10 ∧ I' = I) ∨
  (isCd x = true ∧ n < 40 ∧ r = .inl (nI (n + 1)) ∧ I' = u2 (u2 I 77 n x) 76 1 (nI (n + 1))))
set_option maxHeartbeats 4000000 in
set_option maxRecDepth 100000 in
theorem c_Fi_type {C : CT} {l : Launch} {S : ShT} {I : DI} {J : DJ} {d : Nat} (hC : OKC C l) (hS : SHP S) {n : Nat} {x : Int32} (hn : I 76 1 = nI n) (hn40 : n ≤ 40) (hd : 6 ≤ d) : Sp C l k_Fi_type y_Fi_type (d, 1, 6) [.ref 0, .int x] S I J (FP S (TyQ I J n x)) := by
  refine Sp.of hC cd_Fi_type (Nat.le_of_ble_eq_true rfl) ?_
  show V C l k_Fi_type (d, 1, 6) _ 0 [(0, .ref 0), (1, .int x)] [] S I J (0, 0)
  refine v_iload_n 1 d_Fi_type_0 rfl rfl rfl ?_
  refine v_cSp (as := [.int x]) d_Fi_type_1 cs_Fi_148 (c_Fi_isCode hC (d := d - 1) x (by omega)) rfl rfl (by decide) (by omega) rfl ?_
  refine v_if_ne (tgt := 15) d_Fi_type_4 (by decide) rfl (fun c1 => ?_) (fun c1 => ?_)
  · refine v_aload_n 0 d_Fi_type_15 rfl rfl rfl ?_
    refine v_getr (r := 76) d_Fi_type_16 fl_Fi_33 (hS.o (by decide) rfl) rfl (hS.r (by decide) rfl) rfl ?_
    refine v_cVp (as := []) d_Fi_type_19 cs_Fi_151 (c_Qy_length hC hS (d := d - 1) (by omega)) (hS.o (by decide) rfl) (by decide) rfl rfl rfl (by decide) (by omega) rfl ?_
    refine v_bipush (v := 40) d_Fi_type_22 (by decide) rfl ?_
    refine v_icmp_lt (tgt := 35) d_Fi_type_24 (by decide) rfl (fun c2 => ?_) (fun c2 => ?_)
    · have hn4 : n < 40 := by rcases Nat.lt_or_ge n 40 with h9 | h9; exact h9; exact absurd c2 (by rw [hn]; exact Int32.not_lt.mpr (nI_le (a := 40) h9 (by omega)))
      refine v_aload_n 0 d_Fi_type_35 rfl rfl rfl ?_
      refine v_getr (r := 76) d_Fi_type_36 fl_Fi_33 (hS.o (by decide) rfl) rfl (hS.r (by decide) rfl) rfl ?_
      refine v_iload_n 1 d_Fi_type_39 rfl rfl rfl ?_
      refine v_cVu (as := [.int x]) d_Fi_type_40 cs_Fi_154 (c_Qy_append hC hS (d := d - 1) hn hn4 x (by omega)) (hS.o (by decide) rfl) (by decide) rfl rfl rfl (by decide) (by omega) rfl (fun I1 h1 => ?_)
      refine v_aload_n 0 d_Fi_type_43 rfl rfl rfl ?_
      refine v_getr (r := 76) d_Fi_type_44 fl_Fi_33 (hS.o (by decide) rfl) rfl (hS.r (by decide) rfl) rfl ?_
      refine v_cVp (as := []) d_Fi_type_47 cs_Fi_151 (c_Qy_length hC hS (d := d - 1) (by omega)) (hS.o (by decide) rfl) (by decide) rfl rfl rfl (by decide) (by omega) rfl ?_
      refine v_iret d_Fi_type_50 rfl ?_
      exact ⟨rfl, _, rfl, rfl, Or.inr (Or.inr ⟨bI_t c1, hn4, by rw [h1, u2_s], h1⟩)⟩
    · refine v_throw (ci := 10) (by decide) d_Fi_type_27 d_Fi_type_30 d_Fi_type_31 d_Fi_type_34 wl_Fi_64 wn_Es wi_Es wx_Fi_66 rfl (by omega) ⟨Nat.le_of_ble_eq_true rfl, Nat.le_of_ble_eq_true rfl⟩ ?_
      exact ⟨rfl, I, J, rfl, rfl, rfl, Or.inr (Or.inl ⟨bI_t c1, by rcases Nat.lt_or_ge n 40 with h9 | h9; exact absurd (by rw [hn]; exact nI_lt (b := 40) h9 (by omega)) c2; omega, rfl, rfl⟩)⟩
  · refine v_throw (ci := 9) (by decide) d_Fi_type_7 d_Fi_type_10 d_Fi_type_11 d_Fi_type_14 wl_Fi_55 wn_Ea wi_Ea wx_Fi_57 rfl (by omega) ⟨Nat.le_of_ble_eq_true rfl, Nat.le_of_ble_eq_true rfl⟩ ?_
    exact ⟨rfl, I, J, rfl, rfl, rfl, Or.inl ⟨bI_f c1, rfl, rfl⟩⟩
set_option maxHeartbeats 4000000 in
set_option maxRecDepth 100000 in
theorem c_Fi_fault {C : CT} {l : Launch} {S : ShT} {I : DI} {J : DJ} {d : Nat} (hC : OKC C l) (hS : SHP S) (hd : 0 ≤ d) : Sp C l k_Fi_fault y_Fi_fault (d, 0, 0) [.ref 0] S I J (PP (.int (I 0 5)) S I J) := by
  refine Sp.of hC cd_Fi_fault (Nat.le_of_ble_eq_true rfl) ?_
  show V C l k_Fi_fault (d, 0, 0) _ 0 [(0, .ref 0)] [] S I J (0, 0)
  refine v_aload_n 0 d_Fi_fault_0 rfl rfl rfl ?_
  refine v_geti d_Fi_fault_1 fl_Fi_44 (hS.o (by decide) rfl) rfl rfl ?_
  refine v_iret d_Fi_fault_4 rfl ?_
  exact ⟨rfl, rfl, rfl, rfl⟩
def RsQ (I : DI) (J : DJ) (q : Nat) (x y : Int32) (r : Int32 ⊕ Nat) (I' : DI) (J' : DJ) : Prop := J' = J ∧ I' = I ∧ (
  ((x < 0 ∨ nI q ≤ x) ∧ r = .inr 11) ∨ (∃ j, x = nI j ∧ j < q ∧ ((¬ y = 0 ∧ ¬ y = 1 ∧ r = .inr 9) ∨ (y = 0 ∧ r = .inl (I 122 j)) ∨ (y = 1 ∧ r = .inl (I 123 j)))))
theorem i_ix {x : Int32} {q : Nat} (h0 : ¬ x < 0) (h1 : x < nI q) (hq : q < 1000) : ∃ j : Nat, x = nI j ∧ j < q := by
  rcases pk_ix x (n := q) (by omega) with h2 | h2 | ⟨j, h2, rfl⟩
  · exact absurd h2 h0
  · exact absurd h1 (Int32.not_lt.mpr h2)
  · exact ⟨j, rfl, h2⟩
set_option maxHeartbeats 4000000 in
set_option maxRecDepth 100000 in
theorem c_Fi_result {C : CT} {l : Launch} {S : ShT} {I : DI} {J : DJ} {d : Nat} (hC : OKC C l) (hS : SHP S) {q : Nat} {x y : Int32} (hq : I 121 2 = nI q) (hq16 : q ≤ 16) (hd : 6 ≤ d) : Sp C l k_Fi_result y_Fi_result (d, 1, 6) [.ref 0, .int x, .int y] S I J (FP S (RsQ I J q x y)) := by
  refine Sp.of hC cd_Fi_result (Nat.le_of_ble_eq_true rfl) ?_
  show V C l k_Fi_result (d, 1, 6) _ 0 [(0, .ref 0), (1, .int x), (2, .int y)] [] S I J (0, 0)
  refine v_iload_n 1 d_Fi_result_0 rfl rfl rfl ?_
  refine v_if_lt (tgt := 15) d_Fi_result_1 (by decide) rfl (fun c1 => ?_) (fun c1 => ?_)
  · refine v_throw (ci := 11) (by decide) d_Fi_result_15 d_Fi_result_18 d_Fi_result_19 d_Fi_result_22 wl_Fi_78 wn_Ne wi_Ne wx_Fi_80 rfl (by omega) ⟨Nat.le_of_ble_eq_true rfl, Nat.le_of_ble_eq_true rfl⟩ ?_
    exact ⟨rfl, I, J, rfl, rfl, rfl, rfl, Or.inl ⟨Or.inl c1, rfl⟩⟩
  · refine v_iload_n 1 d_Fi_result_4 rfl rfl rfl ?_
    refine v_aload_n 0 d_Fi_result_5 rfl rfl rfl ?_
    refine v_getr (r := 121) d_Fi_result_6 fl_Fi_40 (hS.o (by decide) rfl) rfl (hS.r (by decide) rfl) rfl ?_
    refine v_cVp (as := []) d_Fi_result_9 cs_Fi_174 (c_Rk_size hC hS (d := d - 1) (by omega)) (hS.o (by decide) rfl) (by decide) rfl rfl rfl (by simp [Value.category]) (by omega) rfl ?_
    refine v_icmp_lt (tgt := 23) d_Fi_result_12 (by decide) rfl (fun c2 => ?_) (fun c2 => ?_)
    · obtain ⟨j, ex, hjq⟩ := i_ix c1 (by have h9 := c2; rw [hq] at h9; exact h9) (by omega)
      refine v_iload_n 2 d_Fi_result_23 rfl rfl rfl ?_
      refine v_if_eq (tgt := 40) d_Fi_result_24 (by decide) rfl (fun c3 => ?_) (fun c3 => ?_)
      · refine v_iload_n 2 d_Fi_result_40 rfl rfl rfl ?_
        refine v_if_ne (tgt := 55) d_Fi_result_41 (by decide) rfl (fun c4 => ?_) (fun c4 => ?_)
        · refine v_aload_n 0 d_Fi_result_55 rfl rfl rfl ?_
          refine v_getr (r := 121) d_Fi_result_56 fl_Fi_40 (hS.o (by decide) rfl) rfl (hS.r (by decide) rfl) rfl ?_
          refine v_iload_n 1 d_Fi_result_59 rfl rfl rfl ?_
          refine v_cVp (as := [.int x]) d_Fi_result_60 cs_Fi_176 (by rw [ex]; exact c_Rk_scoreAt hC hS (d := d - 1) (j := j) (by omega) (by omega)) (hS.o (by decide) rfl) (by decide) rfl rfl rfl (by decide) (by omega) rfl ?_
          refine v_iret d_Fi_result_63 rfl ?_
          exact ⟨rfl, _, rfl, rfl, rfl, Or.inr ⟨j, ex, hjq, absurd c3 c4⟩⟩
        · refine v_aload_n 0 d_Fi_result_44 rfl rfl rfl ?_
          refine v_getr (r := 121) d_Fi_result_45 fl_Fi_40 (hS.o (by decide) rfl) rfl (hS.r (by decide) rfl) rfl ?_
          refine v_iload_n 1 d_Fi_result_48 rfl rfl rfl ?_
          refine v_cVp (as := [.int x]) d_Fi_result_49 cs_Fi_175 (by rw [ex]; exact c_Rk_fileAt hC hS (d := d - 1) (j := j) (by omega) (by omega)) (hS.o (by decide) rfl) (by decide) rfl rfl rfl (by decide) (by omega) rfl ?_
          refine v_goto (tgt := 63) d_Fi_result_52 (by decide) ?_
          refine v_iret d_Fi_result_63 rfl ?_
          exact ⟨rfl, _, rfl, rfl, rfl, Or.inr ⟨j, ex, hjq, Or.inr (Or.inl ⟨c4, rfl⟩)⟩⟩
      · refine v_iload_n 2 d_Fi_result_27 rfl rfl rfl ?_
        refine v_iconst (v := 1) d_Fi_result_28 (by decide) rfl ?_
        refine v_icmp_eq (tgt := 40) d_Fi_result_29 (by decide) rfl (fun c5 => ?_) (fun c5 => ?_)
        · refine v_iload_n 2 d_Fi_result_40 rfl rfl rfl ?_
          refine v_if_ne (tgt := 55) d_Fi_result_41 (by decide) rfl (fun c6 => ?_) (fun c6 => ?_)
          · refine v_aload_n 0 d_Fi_result_55 rfl rfl rfl ?_
            refine v_getr (r := 121) d_Fi_result_56 fl_Fi_40 (hS.o (by decide) rfl) rfl (hS.r (by decide) rfl) rfl ?_
            refine v_iload_n 1 d_Fi_result_59 rfl rfl rfl ?_
            refine v_cVp (as := [.int x]) d_Fi_result_60 cs_Fi_176 (by rw [ex]; exact c_Rk_scoreAt hC hS (d := d - 1) (j := j) (by omega) (by omega)) (hS.o (by decide) rfl) (by decide) rfl rfl rfl (by decide) (by omega) rfl ?_
            refine v_iret d_Fi_result_63 rfl ?_
            exact ⟨rfl, _, rfl, rfl, rfl, Or.inr ⟨j, ex, hjq, Or.inr (Or.inr ⟨c5, rfl⟩)⟩⟩
          · refine v_aload_n 0 d_Fi_result_44 rfl rfl rfl ?_
            refine v_getr (r := 121) d_Fi_result_45 fl_Fi_40 (hS.o (by decide) rfl) rfl (hS.r (by decide) rfl) rfl ?_
            refine v_iload_n 1 d_Fi_result_48 rfl rfl rfl ?_
            refine v_cVp (as := [.int x]) d_Fi_result_49 cs_Fi_175 (by rw [ex]; exact c_Rk_fileAt hC hS (d := d - 1) (j := j) (by omega) (by omega)) (hS.o (by decide) rfl) (by decide) rfl rfl rfl (by decide) (by omega) rfl ?_
            refine v_goto (tgt := 63) d_Fi_result_52 (by decide) ?_
            refine v_iret d_Fi_result_63 rfl ?_
            exact ⟨rfl, _, rfl, rfl, rfl, Or.inr ⟨j, ex, hjq, Or.inr (Or.inl ⟨c6, rfl⟩)⟩⟩
        · refine v_throw (ci := 9) (by decide) d_Fi_result_32 d_Fi_result_35 d_Fi_result_36 d_Fi_result_39 wl_Fi_55 wn_Ea wi_Ea wx_Fi_57 rfl (by omega) ⟨Nat.le_of_ble_eq_true rfl, Nat.le_of_ble_eq_true rfl⟩ ?_
          exact ⟨rfl, I, J, rfl, rfl, rfl, rfl, Or.inr ⟨j, ex, hjq, Or.inl ⟨c3, c5, rfl⟩⟩⟩
    · refine v_throw (ci := 11) (by decide) d_Fi_result_15 d_Fi_result_18 d_Fi_result_19 d_Fi_result_22 wl_Fi_78 wn_Ne wi_Ne wx_Fi_80 rfl (by omega) ⟨Nat.le_of_ble_eq_true rfl, Nat.le_of_ble_eq_true rfl⟩ ?_
      exact ⟨rfl, I, J, rfl, rfl, rfl, rfl, Or.inl ⟨Or.inr (by have h9 := Int32.not_lt.mp c2; rw [hq] at h9; exact h9), rfl⟩⟩
def WoQ (I : DI) (J : DJ) (x : Int32) (r : Int32 ⊕ Nat) (I' : DI) (J' : DJ) : Prop := J' = J ∧ I' = I ∧ (
  (ixH I x = false ∧ r = .inr 11) ∨ (∃ j, x = nI j ∧ j < 16 ∧ I 27 j = 1 ∧ r = .inl (I (28 + 3 * j) 2)))
set_option maxHeartbeats 4000000 in
set_option maxRecDepth 100000 in
theorem c_Fi_words {C : CT} {l : Launch} {S : ShT} {I : DI} {J : DJ} {d : Nat} (hC : OKC C l) (hS : SHP S) {x : Int32} (hb : ∀ i, i < 16 → I 27 i = 0 ∨ I 27 i = 1) (hd : 6 ≤ d) : Sp C l k_Fi_words y_Fi_words (d, 1, 6) [.ref 0, .int x] S I J (FP S (WoQ I J x)) := by
  refine Sp.of hC cd_Fi_words (Nat.le_of_ble_eq_true rfl) ?_
  show V C l k_Fi_words (d, 1, 6) _ 0 [(0, .ref 0), (1, .int x)] [] S I J (0, 0)
  refine v_aload_n 0 d_Fi_words_0 rfl rfl rfl ?_
  refine v_getr (r := 25) d_Fi_words_1 fl_Fi_26 (hS.o (by decide) rfl) rfl (hS.r (by decide) rfl) rfl ?_
  refine v_iload_n 1 d_Fi_words_4 rfl rfl rfl ?_
  refine v_cVp (as := [.int x]) d_Fi_words_5 cs_Fi_165 (c_Ix_has hC hS (d := d - 1) hb x (by omega)) (hS.o (by decide) rfl) (by decide) rfl rfl rfl (by decide) (by omega) rfl ?_
  refine v_if_ne (tgt := 19) d_Fi_words_8 (by decide) rfl (fun c1 => ?_) (fun c1 => ?_)
  · obtain ⟨j, hj, ex, h27⟩ : ∃ j : Nat, j < 16 ∧ x = nI j ∧ I 27 j = 1 := by have h9 := bI_t c1; have h8 := h9; simp only [ixH, Bool.and_eq_true] at h8; obtain ⟨j, q1, q2⟩ := isNd_j h8.1; rw [q2, ixH_j q1] at h9; exact ⟨j, q1, q2, of_decide_eq_true h9⟩
    refine v_aload_n 0 d_Fi_words_19 rfl rfl rfl ?_
    refine v_getr (r := 25) d_Fi_words_20 fl_Fi_26 (hS.o (by decide) rfl) rfl (hS.r (by decide) rfl) rfl ?_
    refine v_iload_n 1 d_Fi_words_23 rfl rfl rfl ?_
    refine v_cVp (as := [.int x]) d_Fi_words_24 cs_Fi_179 (by rw [ex]; exact c_Ix_entryOf hC hS (d := d - 1) (j := j) hj (by omega)) (hS.o (by decide) rfl) (by decide) rfl rfl rfl (by decide) (by omega) rfl ?_
    refine v_cVp (as := []) d_Fi_words_27 cs_Fi_183 (c_En_size hC hS (d := d - 1) hj (by omega)) (hS.en hj) (by decide) rfl rfl rfl (by decide) (by omega) rfl ?_
    refine v_iret d_Fi_words_30 rfl ?_
    exact ⟨rfl, _, rfl, rfl, rfl, Or.inr ⟨j, ex, hj, h27, rfl⟩⟩
  · refine v_throw (ci := 11) (by decide) d_Fi_words_11 d_Fi_words_14 d_Fi_words_15 d_Fi_words_18 wl_Fi_78 wn_Ne wi_Ne wx_Fi_80 rfl (by omega) ⟨Nat.le_of_ble_eq_true rfl, Nat.le_of_ble_eq_true rfl⟩ ?_
    exact ⟨rfl, I, J, rfl, rfl, rfl, rfl, Or.inl ⟨bI_f c1, rfl⟩⟩
def EvQ (I : DI) (J : DJ) (m : Nat) (x : Int32) (r : Int32 ⊕ Nat) (I' : DI) (J' : DJ) : Prop := J' = J ∧ I' = I ∧ (
  ((x < 0 ∨ nI m ≤ x) ∧ r = .inr 11) ∨ (∃ j, x = nI j ∧ j < m ∧ r = .inl (16 * I 23 j + I 24 j)))
set_option maxHeartbeats 4000000 in
set_option maxRecDepth 100000 in
theorem c_Fi_event {C : CT} {l : Launch} {S : ShT} {I : DI} {J : DJ} {d : Nat} (hC : OKC C l) (hS : SHP S) {m : Nat} {x : Int32} (hm : m ≤ 8) (h2 : I 22 2 = nI m) (hd : 6 ≤ d) : Sp C l k_Fi_event y_Fi_event (d, 1, 6) [.ref 0, .int x] S I J (FP S (EvQ I J m x)) := by
  refine Sp.of hC cd_Fi_event (Nat.le_of_ble_eq_true rfl) ?_
  show V C l k_Fi_event (d, 1, 6) _ 0 [(0, .ref 0), (1, .int x)] [] S I J (0, 0)
  refine v_iload_n 1 d_Fi_event_0 rfl rfl rfl ?_
  refine v_if_lt (tgt := 15) d_Fi_event_1 (by decide) rfl (fun c1 => ?_) (fun c1 => ?_)
  · refine v_throw (ci := 11) (by decide) d_Fi_event_15 d_Fi_event_18 d_Fi_event_19 d_Fi_event_22 wl_Fi_78 wn_Ne wi_Ne wx_Fi_80 rfl (by omega) ⟨Nat.le_of_ble_eq_true rfl, Nat.le_of_ble_eq_true rfl⟩ ?_
    exact ⟨rfl, I, J, rfl, rfl, rfl, rfl, Or.inl ⟨Or.inl c1, rfl⟩⟩
  · refine v_iload_n 1 d_Fi_event_4 rfl rfl rfl ?_
    refine v_aload_n 0 d_Fi_event_5 rfl rfl rfl ?_
    refine v_getr (r := 22) d_Fi_event_6 fl_Fi_19 (hS.o (by decide) rfl) rfl (hS.r (by decide) rfl) rfl ?_
    refine v_cVp (as := []) d_Fi_event_9 cs_Fi_117 (c_Qu_size hC hS (d := d - 1) (by omega)) (hS.o (by decide) rfl) (by decide) rfl rfl rfl (by simp [Value.category]) (by omega) rfl ?_
    refine v_icmp_lt (tgt := 23) d_Fi_event_12 (by decide) rfl (fun c2 => ?_) (fun c2 => ?_)
    · obtain ⟨j, ex, hjm⟩ := i_ix c1 (by have h9 := c2; rw [h2] at h9; exact h9) (by omega)
      refine v_bipush (v := 16) d_Fi_event_23 (by decide) rfl ?_
      refine v_aload_n 0 d_Fi_event_25 rfl rfl rfl ?_
      refine v_getr (r := 22) d_Fi_event_26 fl_Fi_19 (hS.o (by decide) rfl) rfl (hS.r (by decide) rfl) rfl ?_
      refine v_iload_n 1 d_Fi_event_29 rfl rfl rfl ?_
      refine v_cVp (as := [.int x]) d_Fi_event_30 cs_Fi_127 (by rw [ex]; exact c_Qu_kindAt hC hS (d := d - 1) (j := j) (by omega) (by omega)) (hS.o (by decide) rfl) (by decide) rfl rfl rfl (by simp [Value.category]) (by omega) rfl ?_
      refine v_imul d_Fi_event_33 rfl ?_
      refine v_nmi (fun z3 ez3 => ?_)
      refine v_aload_n 0 d_Fi_event_34 rfl rfl rfl ?_
      refine v_getr (r := 22) d_Fi_event_35 fl_Fi_19 (hS.o (by decide) rfl) rfl (hS.r (by decide) rfl) rfl ?_
      refine v_iload_n 1 d_Fi_event_38 rfl rfl rfl ?_
      refine v_cVp (as := [.int x]) d_Fi_event_39 cs_Fi_130 (by rw [ex]; exact c_Qu_fileAt hC hS (d := d - 1) (j := j) (by omega) (by omega)) (hS.o (by decide) rfl) (by decide) rfl rfl rfl (by simp [Value.category]) (by omega) rfl ?_
      refine v_iadd d_Fi_event_42 rfl ?_
      refine v_nmi (fun z4 ez4 => ?_)
      refine v_iret d_Fi_event_43 rfl ?_
      exact ⟨rfl, _, rfl, rfl, rfl, Or.inr ⟨j, ex, hjm, by subst_vars; rfl⟩⟩
    · refine v_throw (ci := 11) (by decide) d_Fi_event_15 d_Fi_event_18 d_Fi_event_19 d_Fi_event_22 wl_Fi_78 wn_Ne wi_Ne wx_Fi_80 rfl (by omega) ⟨Nat.le_of_ble_eq_true rfl, Nat.le_of_ble_eq_true rfl⟩ ?_
      exact ⟨rfl, I, J, rfl, rfl, rfl, rfl, Or.inl ⟨Or.inr (by have h9 := Int32.not_lt.mp c2; rw [h2] at h9; exact h9), rfl⟩⟩
def CnQ (I : DI) (J : DJ) (x : Int32) (r : Int32 ⊕ Nat) (I' : DI) (J' : DJ) : Prop := J' = J ∧ I' = I ∧ (
  (x = 0 ∧ r = .inl (nI (cnt (fun j => !decide (I 2 j = 0)) 16))) ∨ (x = 1 ∧ r = .inl (nI (cnt (fun j => decide (I 2 j = 2)) 16))) ∨ (x = 2 ∧ r = .inl (nI (cnt (fun j => decide (I 27 j = 1)) 16))) ∨
  (x = 3 ∧ r = .inl (I 22 2)) ∨ (x = 4 ∧ r = .inl (I 22 3)) ∨ (x = 5 ∧ r = .inl (I 76 1)) ∨ (x = 6 ∧ r = .inl (I 25 2)) ∨ ((x.toInt < 0 ∨ 6 < x.toInt) ∧ r = .inr 9))
theorem i_tab6 (x : Int32) : x = 0 ∨ x = 1 ∨ x = 2 ∨ x = 3 ∨ x = 4 ∨ x = 5 ∨ x = 6 ∨ (x.toInt < 0 ∨ 6 < x.toInt) := by
  have key : ∀ y : Int32, x.toInt = y.toInt → x = y := fun y h => Int32.toInt_inj.mp h
  by_cases h1 : x.toInt < 0 ∨ 6 < x.toInt
  · simp [h1]
  · have : x.toInt = 0 ∨ x.toInt = 1 ∨ x.toInt = 2 ∨ x.toInt = 3 ∨ x.toInt = 4 ∨ x.toInt = 5 ∨ x.toInt = 6 := by omega
    rcases this with h | h | h | h | h | h | h
    · exact Or.inl (key 0 h)
    · exact Or.inr (Or.inl (key 1 h))
    · exact Or.inr (Or.inr (Or.inl (key 2 h)))
    · exact Or.inr (Or.inr (Or.inr (Or.inl (key 3 h))))
    · exact Or.inr (Or.inr (Or.inr (Or.inr (Or.inl (key 4 h)))))
    · exact Or.inr (Or.inr (Or.inr (Or.inr (Or.inr (Or.inl (key 5 h))))))
    · exact Or.inr (Or.inr (Or.inr (Or.inr (Or.inr (Or.inr (Or.inl (key 6 h)))))))
set_option maxHeartbeats 4000000 in
set_option maxRecDepth 100000 in
theorem c_Fi_count {C : CT} {l : Launch} {S : ShT} {I : DI} {J : DJ} {d : Nat} (hC : OKC C l) (hS : SHP S) {x : Int32} (hb : ∀ i, i < 16 → I 27 i = 0 ∨ I 27 i = 1) (hlo : I 22 3 = 0 ∨ I 22 3 = 1) (hd : 6 ≤ d) : Sp C l k_Fi_count y_Fi_count (d, 1, 6) [.ref 0, .int x] S I J (FP S (CnQ I J x)) := by
  refine Sp.of hC cd_Fi_count (Nat.le_of_ble_eq_true rfl) ?_
  show V C l k_Fi_count (d, 1, 6) _ 0 [(0, .ref 0), (1, .int x)] [] S I J (0, 0)
  refine v_iload_n 1 d_Fi_count_0 rfl rfl rfl ?_
  rcases i_tab6 x with rfl | rfl | rfl | rfl | rfl | rfl | rfl | htab
  · refine v_tabI (x := 0) (tgt := 44) d_Fi_count_1 (by decide) (by decide) rfl (by decide) ?_
    refine v_aload_n 0 d_Fi_count_44 rfl rfl rfl ?_
    refine v_getr (r := 1) d_Fi_count_45 fl_Fi_10 (hS.o (by decide) rfl) rfl (hS.r (by decide) rfl) rfl ?_
    refine v_cVp (as := []) d_Fi_count_48 cs_Fi_186 (c_Tr_nodesThere hC hS (d := d - 1) (by omega)) (hS.o (by decide) rfl) (by decide) rfl rfl rfl (by decide) (by omega) rfl ?_
    refine v_iret d_Fi_count_51 rfl ?_
    exact ⟨rfl, _, rfl, rfl, rfl, Or.inl ⟨rfl, rfl⟩⟩
  · refine v_tabI (x := 1) (tgt := 52) d_Fi_count_1 (by decide) (by decide) rfl (by decide) ?_
    refine v_aload_n 0 d_Fi_count_52 rfl rfl rfl ?_
    refine v_getr (r := 1) d_Fi_count_53 fl_Fi_10 (hS.o (by decide) rfl) rfl (hS.r (by decide) rfl) rfl ?_
    refine v_cVp (as := []) d_Fi_count_56 cs_Fi_189 (c_Tr_filesThere hC hS (d := d - 1) (by omega)) (hS.o (by decide) rfl) (by decide) rfl rfl rfl (by decide) (by omega) rfl ?_
    refine v_iret d_Fi_count_59 rfl ?_
    exact ⟨rfl, _, rfl, rfl, rfl, Or.inr (Or.inl ⟨rfl, rfl⟩)⟩
  · refine v_tabI (x := 2) (tgt := 60) d_Fi_count_1 (by decide) (by decide) rfl (by decide) ?_
    refine v_aload_n 0 d_Fi_count_60 rfl rfl rfl ?_
    refine v_getr (r := 25) d_Fi_count_61 fl_Fi_26 (hS.o (by decide) rfl) rfl (hS.r (by decide) rfl) rfl ?_
    refine v_cVp (as := []) d_Fi_count_64 cs_Fi_192 (c_Ix_size hC hS (d := d - 1) hb (by omega)) (hS.o (by decide) rfl) (by decide) rfl rfl rfl (by decide) (by omega) rfl ?_
    refine v_iret d_Fi_count_67 rfl ?_
    exact ⟨rfl, _, rfl, rfl, rfl, Or.inr (Or.inr (Or.inl ⟨rfl, rfl⟩))⟩
  · refine v_tabI (x := 3) (tgt := 68) d_Fi_count_1 (by decide) (by decide) rfl (by decide) ?_
    refine v_aload_n 0 d_Fi_count_68 rfl rfl rfl ?_
    refine v_getr (r := 22) d_Fi_count_69 fl_Fi_19 (hS.o (by decide) rfl) rfl (hS.r (by decide) rfl) rfl ?_
    refine v_cVp (as := []) d_Fi_count_72 cs_Fi_117 (c_Qu_size hC hS (d := d - 1) (by omega)) (hS.o (by decide) rfl) (by decide) rfl rfl rfl (by decide) (by omega) rfl ?_
    refine v_iret d_Fi_count_75 rfl ?_
    exact ⟨rfl, _, rfl, rfl, rfl, Or.inr (Or.inr (Or.inr (Or.inl ⟨rfl, rfl⟩)))⟩
  · refine v_tabI (x := 4) (tgt := 76) d_Fi_count_1 (by decide) (by decide) rfl (by decide) ?_
    refine v_aload_n 0 d_Fi_count_76 rfl rfl rfl ?_
    refine v_getr (r := 22) d_Fi_count_77 fl_Fi_19 (hS.o (by decide) rfl) rfl (hS.r (by decide) rfl) rfl ?_
    refine v_cVp (as := []) d_Fi_count_80 cs_Fi_113 (c_Qu_isLost hC hS (d := d - 1) hlo (by omega)) (hS.o (by decide) rfl) (by decide) rfl rfl rfl (by decide) (by omega) rfl ?_
    refine v_if_eq (tgt := 90) d_Fi_count_83 (by decide) rfl (fun c1 => ?_) (fun c1 => ?_)
    · refine v_iconst (v := 0) d_Fi_count_90 (by decide) rfl ?_
      refine v_iret d_Fi_count_91 rfl ?_
      exact ⟨rfl, _, rfl, rfl, rfl, Or.inr (Or.inr (Or.inr (Or.inr (Or.inl ⟨rfl, by rw [c1]⟩))))⟩
    · refine v_iconst (v := 1) d_Fi_count_86 (by decide) rfl ?_
      refine v_goto (tgt := 91) d_Fi_count_87 (by decide) ?_
      refine v_iret d_Fi_count_91 rfl ?_
      exact ⟨rfl, _, rfl, rfl, rfl, Or.inr (Or.inr (Or.inr (Or.inr (Or.inl ⟨rfl, by rcases hlo with h9 | h9; exact absurd h9 c1; rw [h9]⟩))))⟩
  · refine v_tabI (x := 5) (tgt := 92) d_Fi_count_1 (by decide) (by decide) rfl (by decide) ?_
    refine v_aload_n 0 d_Fi_count_92 rfl rfl rfl ?_
    refine v_getr (r := 76) d_Fi_count_93 fl_Fi_33 (hS.o (by decide) rfl) rfl (hS.r (by decide) rfl) rfl ?_
    refine v_cVp (as := []) d_Fi_count_96 cs_Fi_151 (c_Qy_length hC hS (d := d - 1) (by omega)) (hS.o (by decide) rfl) (by decide) rfl rfl rfl (by decide) (by omega) rfl ?_
    refine v_iret d_Fi_count_99 rfl ?_
    exact ⟨rfl, _, rfl, rfl, rfl, Or.inr (Or.inr (Or.inr (Or.inr (Or.inr (Or.inl ⟨rfl, rfl⟩)))))⟩
  · refine v_tabI (x := 6) (tgt := 100) d_Fi_count_1 (by decide) (by decide) rfl (by decide) ?_
    refine v_aload_n 0 d_Fi_count_100 rfl rfl rfl ?_
    refine v_getr (r := 25) d_Fi_count_101 fl_Fi_26 (hS.o (by decide) rfl) rfl (hS.r (by decide) rfl) rfl ?_
    refine v_cVp (as := []) d_Fi_count_104 cs_Fi_193 (c_Ix_timesRead hC hS (d := d - 1) (by omega)) (hS.o (by decide) rfl) (by decide) rfl rfl rfl (by decide) (by omega) rfl ?_
    refine v_iret d_Fi_count_107 rfl ?_
    exact ⟨rfl, _, rfl, rfl, rfl, Or.inr (Or.inr (Or.inr (Or.inr (Or.inr (Or.inr (Or.inl ⟨rfl, rfl⟩))))))⟩
  · refine v_tabO (tgt := 108) d_Fi_count_1 htab (by decide) ?_
    refine v_throw (ci := 9) (by decide) d_Fi_count_108 d_Fi_count_111 d_Fi_count_112 d_Fi_count_115 wl_Fi_55 wn_Ea wi_Ea wx_Fi_57 rfl (by omega) ⟨Nat.le_of_ble_eq_true rfl, Nat.le_of_ble_eq_true rfl⟩ ?_
    exact ⟨rfl, I, J, rfl, rfl, rfl, rfl, Or.inr (Or.inr (Or.inr (Or.inr (Or.inr (Or.inr (Or.inr ⟨htab, rfl⟩))))))⟩
