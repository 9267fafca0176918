/-! ===== THE MODEL, 2: tell ===== -/
def TM (l : Int32) (n : Nat) (f g : Nat → Int32) (x k : Int32) (l' : Int32) (n' : Nat) (f' g' : Nat → Int32) : Prop :=
  (¬ l = 0 → l' = l ∧ n' = n ∧ ∀ j, j < n → f' j = f j ∧ g' j = g j) ∧
  (l = 0 → plc g x 0 n < n → tgM (f (plc g x 0 n)) k = 0 → l' = l ∧ n' = n - 1 ∧ ∀ j, j < n - 1 → f' j = shf f (plc g x 0 n) (n - 1) j ∧ g' j = shf g (plc g x 0 n) (n - 1) j) ∧
  (l = 0 → plc g x 0 n < n → ¬ tgM (f (plc g x 0 n)) k = 0 → l' = l ∧ n' = n ∧ ∀ j, j < n → g' j = g j ∧ f' j = if j = plc g x 0 n then tgM (f j) k else f j) ∧
  (l = 0 → ¬ plc g x 0 n < n → n < 8 → l' = l ∧ n' = n + 1 ∧ f' n = k ∧ g' n = x ∧ ∀ j, j < n → f' j = f j ∧ g' j = g j) ∧
  (l = 0 → ¬ plc g x 0 n < n → ¬ n < 8 → l' = 1 ∧ n' = 0)
def TlM (I : DI) (x k : Int32) (I' : DI) : Prop := ∃ m m', I 124 9 = nI m ∧ m ≤ 8 ∧ I' 124 9 = nI m' ∧ m' ≤ 8 ∧ TM (I 124 10) m (I 131) (I 132) x k (I' 124 10) m' (I' 131) (I' 132) ∧ (∀ j, j ≠ 9 → j ≠ 10 → I' 124 j = I 124 j) ∧ ∀ b, b ≠ 124 → b ≠ 131 → b ≠ 132 → I' b = I b
theorem TlM_0 {I : DI} {x k : Int32} {m : Nat} (hm : m ≤ 8) (h2 : I 124 9 = nI m) (hl : ¬ I 124 10 = 0) : TlM I x k I :=
  ⟨m, m, h2, hm, h2, hm, ⟨fun _ => ⟨rfl, rfl, fun _ _ => ⟨rfl, rfl⟩⟩, fun h => absurd h hl, fun h => absurd h hl, fun h => absurd h hl, fun h => absurd h hl⟩, fun _ _ _ => rfl, fun _ _ _ _ => rfl⟩
theorem TlM_A {I I' : DI} {x k : Int32} {m i : Nat} (hm : m ≤ 8) (h2 : I 124 9 = nI m) (hl : I 124 10 = 0) (hp : plc (I 132) x 0 m = i) (him : i < m) (ht : tgM (I 131 i) k = 0) (hd : DqM (u2 I 131 i (tgM (I 131 i) k)) i (m - 1) I') : TlM I x k I' := by
  obtain ⟨d1, d2, d3, d4, d5⟩ := hd
  refine ⟨m, m - 1, h2, hm, d1, by omega, ⟨fun h => absurd hl h, fun _ _ _ => ⟨by rw [d2 10 (by decide), u2_o (by decide)], rfl, fun j hj => ?_⟩, fun _ _ h => absurd (by rw [hp]; exact ht) h, fun _ h => absurd (by rw [hp]; exact him) h, fun _ h => absurd (by rw [hp]; exact him) h⟩, fun j j1 j2 => by rw [d2 j j1, u2_o (by decide)], fun b b1 b2 b3 => by rw [d5 b b1 b2 b3, u2_o b2]⟩
  rw [hp, d3, d4, u2_o (show (132 : Nat) ≠ 131 by decide)]
  refine ⟨?_, rfl⟩
  unfold shf
  by_cases h9 : i ≤ j ∧ j < m - 1
  · rw [if_pos h9, if_pos h9, u2_n (Or.inr (by omega))]
  · rw [if_neg h9, if_neg h9, u2_n (Or.inr (by omega))]
theorem TlM_B {I : DI} {x k : Int32} {m i : Nat} (hm : m ≤ 8) (h2 : I 124 9 = nI m) (hl : I 124 10 = 0) (hp : plc (I 132) x 0 m = i) (him : i < m) (ht : ¬ tgM (I 131 i) k = 0) : TlM I x k (u2 I 131 i (tgM (I 131 i) k)) := by
  refine ⟨m, m, h2, hm, by rw [u2_o (by decide)]; exact h2, hm, ⟨fun h => absurd hl h, fun _ _ h => absurd h (by rw [hp]; exact ht), fun _ _ _ => ⟨by rw [u2_o (by decide)], rfl, fun j hj => ⟨by rw [u2_o (by decide)], ?_⟩⟩, fun _ h => absurd (by rw [hp]; exact him) h, fun _ h => absurd (by rw [hp]; exact him) h⟩, fun j j1 j2 => by rw [u2_o (by decide)], fun b b1 b2 b3 => by rw [u2_o b2]⟩
  rw [hp, u2_row]
  show (if j = i then _ else _) = _
  by_cases h9 : j = i
  · rw [if_pos h9, if_pos h9, h9]
  · rw [if_neg h9, if_neg h9]
theorem TlM_C {I : DI} {x k : Int32} {m : Nat} (hm : m = 8) (h2 : I 124 9 = nI m) (hl : I 124 10 = 0) (hp : ¬ plc (I 132) x 0 m < m) : TlM I x k (u2 (u2 I 124 9 0) 124 10 1) :=
  ⟨m, 0, h2, by omega, by rw [u2_n (by decide), u2_s]; rfl, by omega, ⟨fun h => absurd hl h, fun _ h => absurd h hp, fun _ h => absurd h hp, fun _ _ h => by omega, fun _ _ _ => ⟨by rw [u2_s], rfl⟩⟩, fun j j1 j2 => by rw [u2_n (Or.inr j2), u2_n (Or.inr j1)], fun b b1 b2 b3 => by rw [u2_o b1, u2_o b1]⟩
theorem TlM_D {I : DI} {x k : Int32} {m : Nat} (hm : m < 8) (h2 : I 124 9 = nI m) (hl : I 124 10 = 0) (hp : ¬ plc (I 132) x 0 m < m) : TlM I x k (u2 (u2 (u2 I 131 m k) 132 m x) 124 9 (nI (m + 1))) :=
  ⟨m, m + 1, h2, by omega, by rw [u2_s], by omega, ⟨fun h => absurd hl h, fun _ h => absurd h hp, fun _ h => absurd h hp, fun _ _ _ => ⟨by rw [u2_n (by decide), u2_o (by decide), u2_o (by decide)], rfl, by rw [u2_o (by decide), u2_o (by decide), u2_s], by rw [u2_o (by decide), u2_s], fun j hj => ⟨by rw [u2_o (by decide), u2_o (by decide), u2_n (Or.inr (by omega))], by rw [u2_o (by decide), u2_n (Or.inr (by omega)), u2_o (by decide)]⟩⟩, fun _ _ h => by omega⟩, fun j j1 j2 => by rw [u2_n (Or.inr j1), u2_o (by decide), u2_o (by decide)], fun b b1 b2 b3 => by rw [u2_o b1, u2_o b3, u2_o b2]⟩
set_option maxHeartbeats 4000000 in
set_option maxRecDepth 100000 in
theorem lp_Md_tell {C : CT} {l : Launch} {S : ShT} {d : Nat} (hC : OKC C l) (hS : SHP S) (hd : 1 ≤ d) {I : DI} {J : DJ} {y k : Int32} {m : Nat} (hm : m ≤ 8) (h2 : I 124 9 = nI m) (hl : I 124 10 = 0) : ∀ (n0 : Nat) (i : Nat) (x : Int32), x = nI i → i ≤ m → m < i + n0 → plc (I 132) y 0 m = plc (I 132) y i (m - i) → V C l k_Md_tell (d, 0, 0) (PU S J (TlM I y k)) 10 [(3, .int x), (0, .ref 124), (1, .int k), (2, .int y)] [] S I J (0, 0) := by
  intro n0
  induction n0 with
  | zero =>
    intro i x ex hi0 hf hp
    omega
  | succ n0 ih =>
    intro i x ex hi0 hf hp
    refine v_iload_n 0 d_Md_tell_10 rfl rfl rfl ?_
    refine v_aload_n 1 d_Md_tell_11 rfl rfl rfl ?_
    refine v_geti d_Md_tell_12 fl_Md_92 (hS.o (by decide) rfl) rfl rfl ?_
    refine v_icmp_ge (tgt := 68) d_Md_tell_15 (by decide) rfl (fun c1 => ?_) (fun c1 => ?_)
    · have him : i = m := by rcases Nat.lt_or_ge i m with h9 | h9; exact absurd c1 (by rw [ex, h2]; exact nI_ge h9 (by omega)); omega
      have hpm : ¬ plc (I 132) y 0 m < m := by rw [hp, him, Nat.sub_self]; exact Nat.lt_irrefl _
      refine v_aload_n 1 d_Md_tell_68 rfl rfl rfl ?_
      refine v_geti d_Md_tell_69 fl_Md_92 (hS.o (by decide) rfl) rfl rfl ?_
      refine v_bipush (v := 8) d_Md_tell_72 (by decide) rfl ?_
      refine v_icmp_ne (tgt := 88) d_Md_tell_74 (by decide) rfl (fun c2 => ?_) (fun c2 => ?_)
      · have hm7 : m < 8 := by rcases Nat.lt_or_ge m 8 with h9 | h9; exact h9; exact absurd (by rw [h2, show m = 8 by omega]; rfl) c2
        refine v_aload_n 1 d_Md_tell_88 rfl rfl rfl ?_
        refine v_getr (r := 131) d_Md_tell_89 fl_Md_29 (hS.o (by decide) rfl) rfl (hS.r (by decide) rfl) rfl ?_
        refine v_aload_n 1 d_Md_tell_92 rfl rfl rfl ?_
        refine v_geti d_Md_tell_93 fl_Md_92 (hS.o (by decide) rfl) rfl rfl ?_
        refine v_iload_n 2 d_Md_tell_96 rfl rfl rfl ?_
        refine v_iast (j := m) d_Md_tell_97 (hS.a (t := 32) (n := 8) (by decide) rfl) h2 (by omega) (by decide) rfl ?_
        generalize hI3 : u2 I 131 m k = I3
        have gI3 : I3 124 9 = nI m := by rw [← hI3, u2_o (by decide)]; exact h2
        refine v_aload_n 1 d_Md_tell_98 rfl rfl rfl ?_
        refine v_getr (r := 132) d_Md_tell_99 fl_Md_32 (hS.o (by decide) rfl) rfl (hS.r (by decide) rfl) rfl ?_
        refine v_aload_n 1 d_Md_tell_102 rfl rfl rfl ?_
        refine v_geti d_Md_tell_103 fl_Md_92 (hS.o (by decide) rfl) rfl rfl ?_
        refine v_iload_n 3 d_Md_tell_106 rfl rfl rfl ?_
        refine v_iast (j := m) d_Md_tell_107 (hS.a (t := 32) (n := 8) (by decide) rfl) gI3 (by omega) (by decide) rfl ?_
        generalize hI4 : u2 I3 132 m y = I4
        have gI4 : I4 124 9 = nI m := by rw [← hI4, u2_o (by decide), ← hI3, u2_o (by decide)]; exact h2
        refine v_aload_n 1 d_Md_tell_108 rfl rfl rfl ?_
        refine v_dup d_Md_tell_109 rfl rfl ?_
        refine v_geti d_Md_tell_110 fl_Md_92 (hS.o (by decide) rfl) rfl rfl ?_
        refine v_iconst (v := 1) d_Md_tell_113 (by decide) rfl ?_
        refine v_iadd d_Md_tell_114 rfl ?_
        refine v_nmi (fun z5 ez5 => ?_)
        have nz5 : z5 = nI (m + 1) := by rw [ez5, show I4 124 9 = nI m from gI4, show 1 = nI 1 from rfl]; exact nI_add _ _
        refine v_puti d_Md_tell_115 fl_Md_92 (hS.o (by decide) rfl) rfl rfl rfl ?_
        generalize hI6 : u2 I4 124 9 z5 = I6
        refine v_vret d_Md_tell_118 rfl ?_
        exact ⟨rfl, rfl, rfl, by rw [nz5] at hI6; subst_vars; exact TlM_D hm7 h2 hl hpm⟩
      · refine v_aload_n 1 d_Md_tell_77 rfl rfl rfl ?_
        refine v_iconst (v := 0) d_Md_tell_78 (by decide) rfl ?_
        refine v_puti d_Md_tell_79 fl_Md_92 (hS.o (by decide) rfl) rfl rfl rfl ?_
        generalize hI7 : u2 I 124 9 0 = I7
        refine v_aload_n 1 d_Md_tell_82 rfl rfl rfl ?_
        refine v_iconst (v := 1) d_Md_tell_83 (by decide) rfl ?_
        refine v_putz d_Md_tell_84 fl_Md_95 (hS.o (by decide) rfl) rfl rfl (Or.inr rfl) rfl ?_
        generalize hI8 : u2 I7 124 10 1 = I8
        refine v_vret d_Md_tell_87 rfl ?_
        exact ⟨rfl, rfl, rfl, by subst_vars; exact TlM_C ((nI_eq (b := 8) (by omega) (by decide)).mp (by rw [← h2]; exact c2)) h2 hl hpm⟩
    · have him : i < m := by rcases Nat.lt_or_ge i m with h9 | h9; exact h9; exact absurd (by rw [ex, h2]; exact nI_le h9 (by omega)) c1
      refine v_aload_n 1 d_Md_tell_18 rfl rfl rfl ?_
      refine v_getr (r := 132) d_Md_tell_19 fl_Md_32 (hS.o (by decide) rfl) rfl (hS.r (by decide) rfl) rfl ?_
      refine v_iload_n 0 d_Md_tell_22 rfl rfl rfl ?_
      refine v_iald (j := i) d_Md_tell_23 (hS.a (t := 32) (n := 8) (by decide) rfl) ex (by omega) (by decide) rfl ?_
      refine v_iload_n 3 d_Md_tell_24 rfl rfl rfl ?_
      refine v_icmp_eq (tgt := 31) d_Md_tell_25 (by decide) rfl (fun c9 => ?_) (fun c9 => ?_)
      · have hpi : plc (I 132) y 0 m = i := by rw [hp, show m - i = (m - (i + 1)) + 1 by omega, plc_s, if_pos c9]
        refine v_aload_n 1 d_Md_tell_31 rfl rfl rfl ?_
        refine v_getr (r := 131) d_Md_tell_32 fl_Md_29 (hS.o (by decide) rfl) rfl (hS.r (by decide) rfl) rfl ?_
        refine v_iload_n 0 d_Md_tell_35 rfl rfl rfl ?_
        refine v_aload_n 1 d_Md_tell_36 rfl rfl rfl ?_
        refine v_getr (r := 131) d_Md_tell_37 fl_Md_29 (hS.o (by decide) rfl) rfl (hS.r (by decide) rfl) rfl ?_
        refine v_iload_n 0 d_Md_tell_40 rfl rfl rfl ?_
        refine v_iald (j := i) d_Md_tell_41 (hS.a (t := 32) (n := 8) (by decide) rfl) ex (by omega) (by decide) rfl ?_
        refine v_iload_n 2 d_Md_tell_42 rfl rfl rfl ?_
        refine v_cSp (as := [.int (I 131 i), .int k]) d_Md_tell_43 cs_Md_99 (c_Md_together hC (d := d - 1) (I 131 i) k (by omega)) rfl rfl (by simp [Value.category]) (by omega) rfl ?_
        refine v_iast (j := i) d_Md_tell_46 (hS.a (t := 32) (n := 8) (by decide) rfl) ex (by omega) (by decide) rfl ?_
        generalize hI10 : u2 I 131 i (tgM (I 131 i) k) = I10
        have hv : I10 131 i = tgM (I 131 i) k := by rw [← hI10, u2_s]
        refine v_aload_n 1 d_Md_tell_47 rfl rfl rfl ?_
        refine v_getr (r := 131) d_Md_tell_48 fl_Md_29 (hS.o (by decide) rfl) rfl (hS.r (by decide) rfl) rfl ?_
        refine v_iload_n 0 d_Md_tell_51 rfl rfl rfl ?_
        refine v_iald (j := i) d_Md_tell_52 (hS.a (t := 32) (n := 8) (by decide) rfl) ex (by omega) (by decide) rfl ?_
        refine v_if_ne (tgt := 61) d_Md_tell_53 (by decide) rfl (fun c11 => ?_) (fun c11 => ?_)
        · refine v_vret d_Md_tell_61 rfl ?_
          exact ⟨rfl, rfl, rfl, by rw [← hI10]; exact TlM_B hm h2 hl hpi him (by rw [← hv]; exact c11)⟩
        · refine v_aload_n 1 d_Md_tell_56 rfl rfl rfl ?_
          refine v_iload_n 0 d_Md_tell_57 rfl rfl rfl ?_
          refine v_cVu (as := [.int x]) d_Md_tell_58 cs_Md_103 (by rw [ex]; exact c_Md_drop hC hS (d := d - 1) (p := i) (m := m - 1) (by omega) (by omega) (by rw [← hI10, u2_o (by decide), h2, show m - 1 + 1 = m by omega]) (by omega)) (hS.o (by decide) rfl) (by decide) rfl rfl rfl (by decide) (by omega) rfl (fun I9 hd1 => ?_)
          refine v_vret d_Md_tell_61 rfl ?_
          exact ⟨rfl, rfl, rfl, TlM_A hm h2 hl hpi him (by rw [← hv]; exact c11) (by rw [hI10]; exact hd1)⟩
      · refine v_goto (tgt := 62) d_Md_tell_28 (by decide) ?_
        obtain ⟨x12, ex12⟩ : ∃ y : Int32, y = x + 1 := ⟨_, rfl⟩
        have nx12 : x12 = nI (i + 1) := by rw [ex12, show x = nI i from ex]; exact nI_1 _
        refine v_iinc (n := 0) (v := x12) (L' := [(3, .int x12), (0, .ref 124), (1, .int k), (2, .int y)]) d_Md_tell_62 rfl (by rw [ex12]; rfl) (by decide) rfl rfl ?_
        refine v_goto (tgt := 10) d_Md_tell_65 (by decide) ?_
        exact ih (i + 1) _ nx12 (by omega) (by omega) (by rw [hp, show m - i = (m - (i + 1)) + 1 by omega, plc_s, if_neg c9])
set_option maxHeartbeats 4000000 in
set_option maxRecDepth 100000 in
theorem c_Md_tell {C : CT} {l : Launch} {S : ShT} {I : DI} {J : DJ} {d : Nat} (hC : OKC C l) (hS : SHP S) {m : Nat} (hm : m ≤ 8) (h2 : I 124 9 = nI m) (k y : Int32) (hd : 1 ≤ d) : Sp C l k_Md_tell y_Md_tell (d, 0, 0) [.ref 124, .int k, .int y] S I J (PU S J (TlM I y k)) := by
  refine Sp.of hC cd_Md_tell (Nat.le_of_ble_eq_true rfl) ?_
  show V C l k_Md_tell (d, 0, 0) _ 0 [(0, .ref 124), (1, .int k), (2, .int y)] [] S I J (0, 0)
  refine v_aload_n 0 d_Md_tell_0 rfl rfl rfl ?_
  refine v_geti d_Md_tell_1 fl_Md_95 (hS.o (by decide) rfl) rfl rfl ?_
  refine v_if_eq (tgt := 8) d_Md_tell_4 (by decide) rfl (fun c1 => ?_) (fun c1 => ?_)
  · refine v_iconst (v := 0) d_Md_tell_8 (by decide) rfl ?_
    refine v_istore_n (L' := [(3, .int 0), (0, .ref 124), (1, .int k), (2, .int y)]) d_Md_tell_9 rfl (by decide) rfl rfl ?_
    exact lp_Md_tell hC hS hd hm h2 c1 (m + 1) 0 _ rfl (by omega) (by omega) rfl
  · refine v_vret d_Md_tell_7 rfl ?_
    exact ⟨rfl, rfl, rfl, TlM_0 hm h2 c1⟩
