/-- the places from p on to i have taken their right neighbours' values -/
def shf (f : Nat → Int32) (p i : Nat) : Nat → Int32 := fun j => if p ≤ j ∧ j < i then f (j + 1) else f j
theorem shf_0 {f : Nat → Int32} {p : Nat} : shf f p p = f := by
  funext j
  unfold shf
  rw [if_neg (by omega)]
theorem shf_s {f : Nat → Int32} {p i : Nat} (h : p ≤ i) : shf f p (i + 1) = fun j => if j = i then f (i + 1) else shf f p i j := by
  funext j
  unfold shf
  by_cases hj : j = i
  · subst hj
    rw [if_pos (by omega), if_pos rfl]
  · rw [if_neg hj]
    by_cases h1 : p ≤ j ∧ j < i
    · rw [if_pos h1, if_pos (by omega)]
    · rw [if_neg h1, if_neg (by omega)]
theorem u2_row {f : DI} {a k : Nat} {x : Int32} : u2 f a k x a = fun j => if j = k then x else f a j := by
  funext j
  simp [u2]
/-- what a drop at p of a queue of m + 1 leaves -/
def Dq (I0 : DI) (p m : Nat) (I : DI) : Prop := I 22 2 = nI m ∧ (∀ j, j ≠ 2 → I 22 j = I0 22 j) ∧ I 23 = shf (I0 23) p m ∧ I 24 = shf (I0 24) p m ∧ ∀ b, b ≠ 22 → b ≠ 23 → b ≠ 24 → I b = I0 b
set_option maxHeartbeats 4000000 in
set_option maxRecDepth 100000 in
theorem lp_Qu_drop {C : CT} {l : Launch} {S : ShT} {d : Nat} (hC : OKC C l) (hS : SHP S) (hd : 0 ≤ d) {I0 : DI} {J : DJ} {p m : Nat} (hm : m < 8) : ∀ (n : Nat) (i : Nat) (I : DI) (x : Int32), x = nI i → p ≤ i → i ≤ m → m < i + n → I 22 2 = nI m → (∀ j, j ≠ 2 → I 22 j = I0 22 j) → I 23 = shf (I0 23) p i → I 24 = shf (I0 24) p i → (∀ b, b ≠ 22 → b ≠ 23 → b ≠ 24 → I b = I0 b) → V C l k_Qu_drop (d, 0, 0) (PU S J (Dq I0 p m)) 12 [(2, .int x), (0, .ref 22), (1, .int (nI p))] [] S I J (0, 0) := by
  intro n
  induction n with
  | zero =>
    intro i I x ex hpi him hf h2 h3 h4 h5 h6
    omega
  | succ n ih =>
    intro i I x ex hpi him hf h2 h3 h4 h5 h6
    refine v_iload_n 0 d_Qu_drop_12 rfl rfl rfl ?_
    refine v_aload_n 1 d_Qu_drop_13 rfl rfl rfl ?_
    refine v_geti d_Qu_drop_14 fl_Qu_18 (hS.o (by decide) rfl) rfl rfl ?_
    refine v_icmp_ge (tgt := 54) d_Qu_drop_17 (by decide) rfl (fun c1 => ?_) (fun c1 => ?_)
    · refine v_vret d_Qu_drop_54 rfl ?_
      have him : i = m := by rcases Nat.lt_or_ge i m with h9 | h9; exact absurd c1 (by rw [h2, ex]; exact nI_ge h9 (by omega)); omega
      subst him
      exact ⟨rfl, rfl, rfl, h2, h3, h4, h5, h6⟩
    · have hlt : i < m := by rcases Nat.lt_or_ge i m with h9 | h9; exact h9; exact absurd (by rw [h2, ex]; exact nI_le h9 (by omega)) c1
      refine v_aload_n 1 d_Qu_drop_20 rfl rfl rfl ?_
      refine v_getr (r := 23) d_Qu_drop_21 fl_Qu_9 (hS.o (by decide) rfl) rfl (hS.r (by decide) rfl) rfl ?_
      refine v_iload_n 0 d_Qu_drop_24 rfl rfl rfl ?_
      refine v_aload_n 1 d_Qu_drop_25 rfl rfl rfl ?_
      refine v_getr (r := 23) d_Qu_drop_26 fl_Qu_9 (hS.o (by decide) rfl) rfl (hS.r (by decide) rfl) rfl ?_
      refine v_iload_n 0 d_Qu_drop_29 rfl rfl rfl ?_
      refine v_iconst (v := 1) d_Qu_drop_30 (by decide) rfl ?_
      refine v_iadd d_Qu_drop_31 rfl ?_
      refine v_nmi (fun z2 ez2 => ?_)
      have nz2 : z2 = nI (i + 1) := by rw [ez2, show x = nI i from ex, show 1 = nI 1 from rfl]; exact nI_add _ _
      refine v_iald (j := (i + 1)) d_Qu_drop_32 (hS.a (t := 32) (n := 8) (by decide) rfl) nz2 (by omega) (by decide) rfl ?_
      refine v_iast (j := i) d_Qu_drop_33 (hS.a (t := 32) (n := 8) (by decide) rfl) ex (by omega) (by decide) rfl ?_
      generalize hI3 : u2 I 23 i (I 23 (i + 1)) = I3
      refine v_aload_n 1 d_Qu_drop_34 rfl rfl rfl ?_
      refine v_getr (r := 24) d_Qu_drop_35 fl_Qu_15 (hS.o (by decide) rfl) rfl (hS.r (by decide) rfl) rfl ?_
      refine v_iload_n 0 d_Qu_drop_38 rfl rfl rfl ?_
      refine v_aload_n 1 d_Qu_drop_39 rfl rfl rfl ?_
      refine v_getr (r := 24) d_Qu_drop_40 fl_Qu_15 (hS.o (by decide) rfl) rfl (hS.r (by decide) rfl) rfl ?_
      refine v_iload_n 0 d_Qu_drop_43 rfl rfl rfl ?_
      refine v_iconst (v := 1) d_Qu_drop_44 (by decide) rfl ?_
      refine v_iadd d_Qu_drop_45 rfl ?_
      refine v_nmi (fun z4 ez4 => ?_)
      have nz4 : z4 = nI (i + 1) := by rw [ez4, show x = nI i from ex, show 1 = nI 1 from rfl]; exact nI_add _ _
      refine v_iald (j := (i + 1)) d_Qu_drop_46 (hS.a (t := 32) (n := 8) (by decide) rfl) nz4 (by omega) (by decide) rfl ?_
      refine v_iast (j := i) d_Qu_drop_47 (hS.a (t := 32) (n := 8) (by decide) rfl) ex (by omega) (by decide) rfl ?_
      generalize hI5 : u2 I3 24 i (I3 24 (i + 1)) = I5
      obtain ⟨x6, ex6⟩ : ∃ y : Int32, y = x + 1 := ⟨_, rfl⟩
      have nx6 : x6 = nI (i + 1) := by rw [ex6, ex]; exact nI_1 _
      refine v_iinc (n := 0) (v := x6) (L' := [(2, .int x6), (0, .ref 22), (1, .int (nI p))]) d_Qu_drop_48 rfl (by rw [ex6]; rfl) (by decide) rfl rfl ?_
      refine v_goto (tgt := 12) d_Qu_drop_51 (by decide) ?_
      refine ih _ I5 _ nx6 (by omega) (by omega) (by omega) ?_ ?_ ?_ ?_ ?_
      · subst_vars; rw [u2_n (by omega), u2_n (by omega)]; exact h2
      · intro j hj; subst_vars; rw [u2_n (by omega), u2_n (by omega)]; exact h3 j hj
      · subst_vars; rw [u2_o (by decide), u2_row, shf_s hpi, h4]; funext j; by_cases hj : j = i
        · rw [if_pos hj, if_pos hj]; unfold shf; rw [if_neg (by omega)]
        · rw [if_neg hj, if_neg hj]
      · subst_vars; rw [u2_row, shf_s hpi, u2_o (by decide), h5]; funext j; by_cases hj : j = i
        · rw [if_pos hj, if_pos hj]; unfold shf; rw [if_neg (by omega)]
        · rw [if_neg hj, if_neg hj]
      · intro b b1 b2 b3; subst_vars; rw [u2_o b3, u2_o b2]; exact h6 b b1 b2 b3
set_option maxHeartbeats 4000000 in
set_option maxRecDepth 100000 in
theorem c_Qu_drop {C : CT} {l : Launch} {S : ShT} {I : DI} {J : DJ} {d : Nat} (hC : OKC C l) (hS : SHP S) {p m : Nat} (hm : m < 8) (hp : p ≤ m) (h2 : I 22 2 = nI (m + 1)) (hd : 0 ≤ d) : Sp C l k_Qu_drop y_Qu_drop (d, 0, 0) [.ref 22, .int (nI p)] S I J (PU S J (Dq I p m)) := by
  refine Sp.of hC cd_Qu_drop (Nat.le_of_ble_eq_true rfl) ?_
  show V C l k_Qu_drop (d, 0, 0) _ 0 [(0, .ref 22), (1, .int (nI p))] [] S I J (0, 0)
  refine v_aload_n 0 d_Qu_drop_0 rfl rfl rfl ?_
  refine v_dup d_Qu_drop_1 rfl rfl ?_
  refine v_geti d_Qu_drop_2 fl_Qu_18 (hS.o (by decide) rfl) rfl rfl ?_
  refine v_iconst (v := 1) d_Qu_drop_5 (by decide) rfl ?_
  refine v_isub d_Qu_drop_6 rfl ?_
  refine v_nmi (fun z1 ez1 => ?_)
  have nz1 : z1 = nI ((m + 1) - 1) := by rw [ez1, show I 22 2 = nI (m + 1) from h2, show 1 = nI 1 from rfl]; exact pk_sub (by omega)
  refine v_puti d_Qu_drop_7 fl_Qu_18 (hS.o (by decide) rfl) rfl rfl rfl ?_
  generalize hI2 : u2 I 22 2 z1 = I2
  refine v_iload_n 1 d_Qu_drop_10 rfl rfl rfl ?_
  refine v_istore_n (L' := [(2, .int (nI p)), (0, .ref 22), (1, .int (nI p))]) d_Qu_drop_11 rfl (by decide) rfl rfl ?_
  exact lp_Qu_drop hC hS hd hm (m + 1) p I2 _ rfl (Nat.le_refl _) hp (by omega) (by rw [← hI2, u2_s, nz1]; rfl) (fun j hj => by rw [← hI2, u2_n (Or.inr hj)]) (by rw [← hI2, u2_o (by decide), shf_0]) (by rw [← hI2, u2_o (by decide), shf_0]) (fun b b1 b2 b3 => by rw [← hI2, u2_o b1])
