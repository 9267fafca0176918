/-! ===== THE MODEL, 11: scores ===== -/
set_option maxHeartbeats 4000000 in
set_option maxRecDepth 100000 in
theorem lp_Md_place {C : CT} {l : Launch} {S : ShT} {d : Nat} (hC : OKC C l) (hS : SHP S) (hd : 0 ≤ d) {I0 : DI} {J : DJ} {m : Nat} {x y : Int32} (hm15 : m < 16) (hm : I0 124 33 = nI m) : ∀ (n0 : Nat) (k : Nat) (I : DI) (z : Int32), z = nI k → k ≤ m → k < n0 → I 146 = shr (I0 146) k m → I 147 = shr (I0 147) k m → (∀ j, I 124 j = I0 124 j) → (∀ b, b ≠ 124 → b ≠ 146 → b ≠ 147 → I b = I0 b) → pos (I0 147) y m = pos (I0 147) y k → V C l k_Md_place (d, 0, 0) (PU S J (fun I' => I' 146 = ins (I0 146) (pos (I0 147) y m) m x ∧ I' 147 = ins (I0 147) (pos (I0 147) y m) m y ∧ I' 124 33 = nI (m + 1) ∧ (∀ j, j ≠ 33 → I' 124 j = I0 124 j) ∧ ∀ b, b ≠ 124 → b ≠ 146 → b ≠ 147 → I' b = I0 b)) 5 [(3, .int z), (0, .ref 124), (1, .int x), (2, .int y)] [] S I J (0, 0) := by
  intro n0
  induction n0 with
  | zero =>
    intro k I z ez hk hf h1 h2 h3 h4 hpo
    omega
  | succ n0 ih =>
    intro k I z ez hk hf h1 h2 h3 h4 hpo
    refine v_iload_n 0 d_Md_place_5 rfl rfl rfl ?_
    refine v_if_le (tgt := 55) d_Md_place_6 (by decide) rfl (fun c1 => ?_) (fun c1 => ?_)
    · refine v_aload_n 1 d_Md_place_55 rfl rfl rfl ?_
      refine v_getr (r := 146) d_Md_place_56 fl_Md_79 (hS.o (by decide) rfl) rfl (hS.r (by decide) rfl) rfl ?_
      refine v_iload_n 0 d_Md_place_59 rfl rfl rfl ?_
      refine v_iload_n 2 d_Md_place_60 rfl rfl rfl ?_
      refine v_iast (j := k) d_Md_place_61 (hS.a (t := 32) (n := 16) (by decide) rfl) ez (by omega) (by decide) rfl ?_
      generalize hI2 : u2 I 146 k x = I2
      refine v_aload_n 1 d_Md_place_62 rfl rfl rfl ?_
      refine v_getr (r := 147) d_Md_place_63 fl_Md_82 (hS.o (by decide) rfl) rfl (hS.r (by decide) rfl) rfl ?_
      refine v_iload_n 0 d_Md_place_66 rfl rfl rfl ?_
      refine v_iload_n 3 d_Md_place_67 rfl rfl rfl ?_
      refine v_iast (j := k) d_Md_place_68 (hS.a (t := 32) (n := 16) (by decide) rfl) ez (by omega) (by decide) rfl ?_
      generalize hI3 : u2 I2 147 k y = I3
      refine v_aload_n 1 d_Md_place_69 rfl rfl rfl ?_
      refine v_dup d_Md_place_70 rfl rfl ?_
      refine v_geti d_Md_place_71 fl_Md_178 (hS.o (by decide) rfl) rfl rfl ?_
      refine v_iconst (v := 1) d_Md_place_74 (by decide) rfl ?_
      refine v_iadd d_Md_place_75 rfl ?_
      refine v_nmi (fun z4 ez4 => ?_)
      refine v_puti d_Md_place_76 fl_Md_178 (hS.o (by decide) rfl) rfl rfl rfl ?_
      generalize hI5 : u2 I3 124 33 z4 = I5
      refine v_vret d_Md_place_79 rfl ?_
      have hk0 : k = 0 := by rcases Nat.eq_zero_or_pos k with h9 | h9; exact h9; exact absurd c1 (by rw [ez]; exact nI_nle h9 (by omega))
      subst hk0
      have hpk : pos (I0 147) y m = 0 := hpo
      refine ⟨rfl, rfl, rfl, ?_, ?_, ?_, ?_, ?_⟩
      · subst_vars; rw [hpk, u2_o (by decide), u2_o (by decide), u2_row, h1]; rfl
      · subst_vars; rw [hpk, u2_o (by decide), u2_row, u2_o (by decide), h2]; rfl
      · subst_vars; rw [u2_s, u2_o (by decide), u2_o (by decide), h3, hm]; exact nI_1 m
      · intro j hj; subst_vars; rw [u2_n (Or.inr hj), u2_o (by decide), u2_o (by decide)]; exact h3 j
      · intro b b1 b2 b3; subst_vars; rw [u2_o b1, u2_o b3, u2_o b2]; exact h4 b b1 b2 b3
    · obtain ⟨k', hk'⟩ : ∃ k', k = k' + 1 := ⟨k - 1, by rcases Nat.eq_zero_or_pos k with h9 | h9; exact absurd (by rw [ez, h9]; exact Int32.le_refl _) c1; omega⟩
      subst hk'
      refine v_aload_n 1 d_Md_place_9 rfl rfl rfl ?_
      refine v_getr (r := 147) d_Md_place_10 fl_Md_82 (hS.o (by decide) rfl) rfl (hS.r (by decide) rfl) rfl ?_
      refine v_iload_n 0 d_Md_place_13 rfl rfl rfl ?_
      refine v_iconst (v := 1) d_Md_place_14 (by decide) rfl ?_
      refine v_isub d_Md_place_15 rfl ?_
      refine v_nmi (fun z6 ez6 => ?_)
      have nz6 : z6 = nI ((k' + 1) - 1) := by rw [ez6, show z = nI (k' + 1) from ez, show 1 = nI 1 from rfl]; exact pk_sub (by omega)
      refine v_iald (j := ((k' + 1) - 1)) d_Md_place_16 (hS.a (t := 32) (n := 16) (by decide) rfl) nz6 (by omega) (by decide) rfl ?_
      refine v_iload_n 3 d_Md_place_17 rfl rfl rfl ?_
      refine v_icmp_ge (tgt := 55) d_Md_place_18 (by decide) rfl (fun c7 => ?_) (fun c7 => ?_)
      · refine v_aload_n 1 d_Md_place_55 rfl rfl rfl ?_
        refine v_getr (r := 146) d_Md_place_56 fl_Md_79 (hS.o (by decide) rfl) rfl (hS.r (by decide) rfl) rfl ?_
        refine v_iload_n 0 d_Md_place_59 rfl rfl rfl ?_
        refine v_iload_n 2 d_Md_place_60 rfl rfl rfl ?_
        refine v_iast (j := (k' + 1)) d_Md_place_61 (hS.a (t := 32) (n := 16) (by decide) rfl) ez (by omega) (by decide) rfl ?_
        generalize hI8 : u2 I 146 (k' + 1) x = I8
        refine v_aload_n 1 d_Md_place_62 rfl rfl rfl ?_
        refine v_getr (r := 147) d_Md_place_63 fl_Md_82 (hS.o (by decide) rfl) rfl (hS.r (by decide) rfl) rfl ?_
        refine v_iload_n 0 d_Md_place_66 rfl rfl rfl ?_
        refine v_iload_n 3 d_Md_place_67 rfl rfl rfl ?_
        refine v_iast (j := (k' + 1)) d_Md_place_68 (hS.a (t := 32) (n := 16) (by decide) rfl) ez (by omega) (by decide) rfl ?_
        generalize hI9 : u2 I8 147 (k' + 1) y = I9
        refine v_aload_n 1 d_Md_place_69 rfl rfl rfl ?_
        refine v_dup d_Md_place_70 rfl rfl ?_
        refine v_geti d_Md_place_71 fl_Md_178 (hS.o (by decide) rfl) rfl rfl ?_
        refine v_iconst (v := 1) d_Md_place_74 (by decide) rfl ?_
        refine v_iadd d_Md_place_75 rfl ?_
        refine v_nmi (fun z10 ez10 => ?_)
        refine v_puti d_Md_place_76 fl_Md_178 (hS.o (by decide) rfl) rfl rfl rfl ?_
        generalize hI11 : u2 I9 124 33 z10 = I11
        refine v_vret d_Md_place_79 rfl ?_
        have hpk : pos (I0 147) y m = k' + 1 := by rw [hpo, pos_s, if_neg]; have h9 := c7; rw [h2] at h9; unfold shr at h9; rw [if_neg (by omega), show k' + 1 - 1 = k' by omega] at h9; exact Int32.not_lt.mpr h9
        refine ⟨rfl, rfl, rfl, ?_, ?_, ?_, ?_, ?_⟩
        · subst_vars; rw [hpk, u2_o (by decide), u2_o (by decide), u2_row, h1]; rfl
        · subst_vars; rw [hpk, u2_o (by decide), u2_row, u2_o (by decide), h2]; rfl
        · subst_vars; rw [u2_s, u2_o (by decide), u2_o (by decide), h3, hm]; exact nI_1 m
        · intro j hj; subst_vars; rw [u2_n (Or.inr hj), u2_o (by decide), u2_o (by decide)]; exact h3 j
        · intro b b1 b2 b3; subst_vars; rw [u2_o b1, u2_o b3, u2_o b2]; exact h4 b b1 b2 b3
      · have hlt : I0 147 k' < y := by have h9 := c7; rw [h2] at h9; unfold shr at h9; rw [if_neg (by omega), show k' + 1 - 1 = k' by omega] at h9; exact Int32.not_le.mp h9
        refine v_aload_n 1 d_Md_place_21 rfl rfl rfl ?_
        refine v_getr (r := 146) d_Md_place_22 fl_Md_79 (hS.o (by decide) rfl) rfl (hS.r (by decide) rfl) rfl ?_
        refine v_iload_n 0 d_Md_place_25 rfl rfl rfl ?_
        refine v_aload_n 1 d_Md_place_26 rfl rfl rfl ?_
        refine v_getr (r := 146) d_Md_place_27 fl_Md_79 (hS.o (by decide) rfl) rfl (hS.r (by decide) rfl) rfl ?_
        refine v_iload_n 0 d_Md_place_30 rfl rfl rfl ?_
        refine v_iconst (v := 1) d_Md_place_31 (by decide) rfl ?_
        refine v_isub d_Md_place_32 rfl ?_
        refine v_nmi (fun z12 ez12 => ?_)
        have nz12 : z12 = nI ((k' + 1) - 1) := by rw [ez12, show z = nI (k' + 1) from ez, show 1 = nI 1 from rfl]; exact pk_sub (by omega)
        refine v_iald (j := ((k' + 1) - 1)) d_Md_place_33 (hS.a (t := 32) (n := 16) (by decide) rfl) nz12 (by omega) (by decide) rfl ?_
        refine v_iast (j := (k' + 1)) d_Md_place_34 (hS.a (t := 32) (n := 16) (by decide) rfl) ez (by omega) (by decide) rfl ?_
        generalize hI13 : u2 I 146 (k' + 1) (I 146 ((k' + 1) - 1)) = I13
        refine v_aload_n 1 d_Md_place_35 rfl rfl rfl ?_
        refine v_getr (r := 147) d_Md_place_36 fl_Md_82 (hS.o (by decide) rfl) rfl (hS.r (by decide) rfl) rfl ?_
        refine v_iload_n 0 d_Md_place_39 rfl rfl rfl ?_
        refine v_aload_n 1 d_Md_place_40 rfl rfl rfl ?_
        refine v_getr (r := 147) d_Md_place_41 fl_Md_82 (hS.o (by decide) rfl) rfl (hS.r (by decide) rfl) rfl ?_
        refine v_iload_n 0 d_Md_place_44 rfl rfl rfl ?_
        refine v_iconst (v := 1) d_Md_place_45 (by decide) rfl ?_
        refine v_isub d_Md_place_46 rfl ?_
        refine v_nmi (fun z14 ez14 => ?_)
        have nz14 : z14 = nI ((k' + 1) - 1) := by rw [ez14, show z = nI (k' + 1) from ez, show 1 = nI 1 from rfl]; exact pk_sub (by omega)
        refine v_iald (j := ((k' + 1) - 1)) d_Md_place_47 (hS.a (t := 32) (n := 16) (by decide) rfl) nz14 (by omega) (by decide) rfl ?_
        refine v_iast (j := (k' + 1)) d_Md_place_48 (hS.a (t := 32) (n := 16) (by decide) rfl) ez (by omega) (by decide) rfl ?_
        generalize hI15 : u2 I13 147 (k' + 1) (I13 147 ((k' + 1) - 1)) = I15
        obtain ⟨x16, ex16⟩ : ∃ y9 : Int32, y9 = z + (-1) := ⟨_, rfl⟩
        have nx16 : x16 = nI ((k' + 1) - 1) := by rw [ex16, show z = nI (k' + 1) from ez]; exact sb_m1 (by omega)
        refine v_iinc (n := 0) (v := x16) (L' := [(3, .int x16), (0, .ref 124), (1, .int x), (2, .int y)]) d_Md_place_49 rfl (by rw [ex16]; rfl) (by decide) rfl rfl ?_
        refine v_goto (tgt := 5) d_Md_place_52 (by decide) ?_
        refine ih k' I15 _ nx16 (by omega) (by omega) ?_ ?_ ?_ ?_ ?_
        · subst_vars; rw [u2_o (by decide), u2_row, h1, ← shr_s (f := I0 146) (k := k') (by omega)]; funext j; by_cases hj : j = k' + 1
          · rw [if_pos hj, if_pos hj]; unfold shr; rw [if_neg (by omega)]; rfl
          · rw [if_neg hj, if_neg hj]
        · subst_vars; rw [u2_row, u2_o (by decide), h2, ← shr_s (f := I0 147) (k := k') (by omega)]; funext j; by_cases hj : j = k' + 1
          · rw [if_pos hj, if_pos hj]; unfold shr; rw [if_neg (by omega)]; rfl
          · rw [if_neg hj, if_neg hj]
        · intro j; subst_vars; rw [u2_o (by decide), u2_o (by decide)]; exact h3 j
        · intro b b1 b2 b3; subst_vars; rw [u2_o b3, u2_o b2]; exact h4 b b1 b2 b3
        · rw [hpo, pos_s, if_pos hlt]
set_option maxHeartbeats 4000000 in
set_option maxRecDepth 100000 in
theorem c_Md_place {C : CT} {l : Launch} {S : ShT} {I : DI} {J : DJ} {d : Nat} (hC : OKC C l) (hS : SHP S) {m : Nat} (hm15 : m < 16) (hm : I 124 33 = nI m) (x y : Int32) (hd : 0 ≤ d) : Sp C l k_Md_place y_Md_place (d, 0, 0) [.ref 124, .int x, .int y] S I J (PU S J (fun I' => I' 146 = ins (I 146) (pos (I 147) y m) m x ∧ I' 147 = ins (I 147) (pos (I 147) y m) m y ∧ I' 124 33 = nI (m + 1) ∧ (∀ j, j ≠ 33 → I' 124 j = I 124 j) ∧ ∀ b, b ≠ 124 → b ≠ 146 → b ≠ 147 → I' b = I b)) := by
  refine Sp.of hC cd_Md_place (Nat.le_of_ble_eq_true rfl) ?_
  show V C l k_Md_place (d, 0, 0) _ 0 [(0, .ref 124), (1, .int x), (2, .int y)] [] S I J (0, 0)
  refine v_aload_n 0 d_Md_place_0 rfl rfl rfl ?_
  refine v_geti d_Md_place_1 fl_Md_178 (hS.o (by decide) rfl) rfl rfl ?_
  refine v_istore_n (L' := [(3, .int (I 124 33)), (0, .ref 124), (1, .int x), (2, .int y)]) d_Md_place_4 rfl (by decide) rfl rfl ?_
  exact lp_Md_place hC hS hd hm15 hm (m + 1) m I _ hm (by omega) (by omega) shr_0.symm shr_0.symm (fun _ => rfl) (fun _ _ _ _ => rfl) rfl
def hitM (I : DI) (J : DJ) (t f p : Nat) : Bool := if I 141 t = 1 then (!decide (I 136 p < I 145 f) && decide (J 135 p >>> ((8 * (I 136 p - I 145 f)).toInt64 &&& 63) = J 144 f)) else decide (J 135 p = J 144 f)
set_option maxHeartbeats 4000000 in
set_option maxRecDepth 100000 in
theorem c_Md_hit {C : CT} {l : Launch} {S : ShT} {I : DI} {J : DJ} {d : Nat} (hC : OKC C l) (hS : SHP S) {t f p : Nat} {x : Int32} (ht : t < 40) (hf : f < 60) (hp : p < 480) (h142 : I 142 t = nI f) (ep : x = nI p) (hd : 0 ≤ d) : Sp C l k_Md_hit y_Md_hit (d, 0, 0) [.ref 124, .int (nI t), .int x] S I J (PP (.int (bI (hitM I J t f p))) S I J) := by
  refine Sp.of hC cd_Md_hit (Nat.le_of_ble_eq_true rfl) ?_
  show V C l k_Md_hit (d, 0, 0) _ 0 [(0, .ref 124), (1, .int (nI t)), (2, .int x)] [] S I J (0, 0)
  refine v_aload_n 0 d_Md_hit_0 rfl rfl rfl ?_
  refine v_getr (r := 142) d_Md_hit_1 fl_Md_63 (hS.o (by decide) rfl) rfl (hS.r (by decide) rfl) rfl ?_
  refine v_iload_n 1 d_Md_hit_4 rfl rfl rfl ?_
  refine v_iald (j := t) d_Md_hit_5 (hS.a (t := 32) (n := 40) (by decide) rfl) rfl (by omega) (by decide) rfl ?_
  refine v_istore_n (L' := [(3, .int (I 142 t)), (0, .ref 124), (1, .int (nI t)), (2, .int x)]) d_Md_hit_6 rfl (by decide) rfl rfl ?_
  refine v_aload_n 1 d_Md_hit_7 rfl rfl rfl ?_
  refine v_getr (r := 141) d_Md_hit_8 fl_Md_60 (hS.o (by decide) rfl) rfl (hS.r (by decide) rfl) rfl ?_
  refine v_iload_n 2 d_Md_hit_11 rfl rfl rfl ?_
  refine v_iald (j := t) d_Md_hit_12 (hS.a (t := 32) (n := 40) (by decide) rfl) rfl (by omega) (by decide) rfl ?_
  refine v_iconst (v := 1) d_Md_hit_13 (by decide) rfl ?_
  refine v_icmp_ne (tgt := 71) d_Md_hit_14 (by decide) rfl (fun c1 => ?_) (fun c1 => ?_)
  · refine v_aload_n 1 d_Md_hit_71 rfl rfl rfl ?_
    refine v_getr (r := 135) d_Md_hit_72 fl_Md_41 (hS.o (by decide) rfl) rfl (hS.r (by decide) rfl) rfl ?_
    refine v_iload_n 3 d_Md_hit_75 rfl rfl rfl ?_
    refine v_lald (j := p) d_Md_hit_76 (hS.a (t := 34) (n := 480) (by decide) rfl) ep (by omega) (by decide) rfl ?_
    refine v_aload_n 1 d_Md_hit_77 rfl rfl rfl ?_
    refine v_getr (r := 144) d_Md_hit_78 fl_Md_69 (hS.o (by decide) rfl) rfl (hS.r (by decide) rfl) rfl ?_
    refine v_iload_n 0 d_Md_hit_81 rfl rfl rfl ?_
    refine v_lald (j := f) d_Md_hit_82 (hS.a (t := 34) (n := 60) (by decide) rfl) h142 (by omega) (by decide) rfl ?_
    refine v_lcmp d_Md_hit_83 rfl ?_
    refine v_nmi (fun z2 ez2 => ?_)
    refine v_if_ne (tgt := 91) d_Md_hit_84 (by decide) rfl (fun c3 => ?_) (fun c3 => ?_)
    · refine v_iconst (v := 0) d_Md_hit_91 (by decide) rfl ?_
      refine v_zret d_Md_hit_92 rfl (Or.inl rfl) ?_
      exact ⟨congrArg (fun z => some (Value.int z)) (show _ = bI (hitM I J t f p) from by unfold hitM; rw [if_neg c1, decide_eq_false (fun h9 => c3 (by rw [ez2]; exact (lg_cmp_0 _ _).mpr h9))]; rfl), rfl, rfl, rfl⟩
    · refine v_iconst (v := 1) d_Md_hit_87 (by decide) rfl ?_
      refine v_goto (tgt := 92) d_Md_hit_88 (by decide) ?_
      refine v_zret d_Md_hit_92 rfl (Or.inr rfl) ?_
      exact ⟨congrArg (fun z => some (Value.int z)) (show _ = bI (hitM I J t f p) from by unfold hitM; rw [if_neg c1, decide_eq_true ((lg_cmp_0 _ _).mp (by rw [← ez2]; exact c3))]; rfl), rfl, rfl, rfl⟩
  · refine v_aload_n 1 d_Md_hit_17 rfl rfl rfl ?_
    refine v_getr (r := 136) d_Md_hit_18 fl_Md_45 (hS.o (by decide) rfl) rfl (hS.r (by decide) rfl) rfl ?_
    refine v_iload_n 3 d_Md_hit_21 rfl rfl rfl ?_
    refine v_iald (j := p) d_Md_hit_22 (hS.a (t := 32) (n := 480) (by decide) rfl) ep (by omega) (by decide) rfl ?_
    refine v_aload_n 1 d_Md_hit_23 rfl rfl rfl ?_
    refine v_getr (r := 145) d_Md_hit_24 fl_Md_72 (hS.o (by decide) rfl) rfl (hS.r (by decide) rfl) rfl ?_
    refine v_iload_n 0 d_Md_hit_27 rfl rfl rfl ?_
    refine v_iald (j := f) d_Md_hit_28 (hS.a (t := 32) (n := 60) (by decide) rfl) h142 (by omega) (by decide) rfl ?_
    refine v_icmp_lt (tgt := 69) d_Md_hit_29 (by decide) rfl (fun c4 => ?_) (fun c4 => ?_)
    · refine v_iconst (v := 0) d_Md_hit_69 (by decide) rfl ?_
      refine v_zret d_Md_hit_70 rfl (Or.inl rfl) ?_
      exact ⟨congrArg (fun z => some (Value.int z)) (show _ = bI (hitM I J t f p) from by unfold hitM; rw [if_pos c1, decide_eq_true c4]; rfl), rfl, rfl, rfl⟩
    · refine v_aload_n 1 d_Md_hit_32 rfl rfl rfl ?_
      refine v_getr (r := 135) d_Md_hit_33 fl_Md_41 (hS.o (by decide) rfl) rfl (hS.r (by decide) rfl) rfl ?_
      refine v_iload_n 3 d_Md_hit_36 rfl rfl rfl ?_
      refine v_lald (j := p) d_Md_hit_37 (hS.a (t := 34) (n := 480) (by decide) rfl) ep (by omega) (by decide) rfl ?_
      refine v_bipush (v := 8) d_Md_hit_38 (by decide) rfl ?_
      refine v_aload_n 1 d_Md_hit_40 rfl rfl rfl ?_
      refine v_getr (r := 136) d_Md_hit_41 fl_Md_45 (hS.o (by decide) rfl) rfl (hS.r (by decide) rfl) rfl ?_
      refine v_iload_n 3 d_Md_hit_44 rfl rfl rfl ?_
      refine v_iald (j := p) d_Md_hit_45 (hS.a (t := 32) (n := 480) (by decide) rfl) ep (by omega) (by decide) rfl ?_
      refine v_aload_n 1 d_Md_hit_46 rfl rfl rfl ?_
      refine v_getr (r := 145) d_Md_hit_47 fl_Md_72 (hS.o (by decide) rfl) rfl (hS.r (by decide) rfl) rfl ?_
      refine v_iload_n 0 d_Md_hit_50 rfl rfl rfl ?_
      refine v_iald (j := f) d_Md_hit_51 (hS.a (t := 32) (n := 60) (by decide) rfl) h142 (by omega) (by decide) rfl ?_
      refine v_isub d_Md_hit_52 rfl ?_
      refine v_nmi (fun z5 ez5 => ?_)
      refine v_imul d_Md_hit_53 rfl ?_
      refine v_nmi (fun z6 ez6 => ?_)
      refine v_lshr d_Md_hit_54 rfl rfl ?_
      refine v_nml (fun z7 ez7 => ?_)
      refine v_aload_n 1 d_Md_hit_55 rfl rfl rfl ?_
      refine v_getr (r := 144) d_Md_hit_56 fl_Md_69 (hS.o (by decide) rfl) rfl (hS.r (by decide) rfl) rfl ?_
      refine v_iload_n 0 d_Md_hit_59 rfl rfl rfl ?_
      refine v_lald (j := f) d_Md_hit_60 (hS.a (t := 34) (n := 60) (by decide) rfl) h142 (by omega) (by decide) rfl ?_
      refine v_lcmp d_Md_hit_61 rfl ?_
      refine v_nmi (fun z8 ez8 => ?_)
      refine v_if_ne (tgt := 69) d_Md_hit_62 (by decide) rfl (fun c9 => ?_) (fun c9 => ?_)
      · refine v_iconst (v := 0) d_Md_hit_69 (by decide) rfl ?_
        refine v_zret d_Md_hit_70 rfl (Or.inl rfl) ?_
        exact ⟨congrArg (fun z => some (Value.int z)) (show _ = bI (hitM I J t f p) from by unfold hitM; rw [if_pos c1, decide_eq_false (p := J 135 p >>> _ = _) (fun h9 => c9 (by rw [ez8]; refine (lg_cmp_0 _ _).mpr ?_; rw [ez7, ez6, ez5]; exact h9)), Bool.and_false]; rfl), rfl, rfl, rfl⟩
      · refine v_iconst (v := 1) d_Md_hit_65 (by decide) rfl ?_
        refine v_goto (tgt := 70) d_Md_hit_66 (by decide) ?_
        refine v_zret d_Md_hit_70 rfl (Or.inr rfl) ?_
        exact ⟨congrArg (fun z => some (Value.int z)) (show _ = bI (hitM I J t f p) from by unfold hitM; rw [if_pos c1, decide_eq_false c4, decide_eq_true (by have h9 := (lg_cmp_0 _ _).mp (show _ = (0 : Int32) by rw [← ez8]; exact c9); rw [ez7, ez6, ez5] at h9; exact h9)]; rfl), rfl, rfl, rfl⟩
def anF (G : Nat → Bool) : Nat → Bool
  | 0 => false
  | k + 1 => anF G k || G k
theorem anF_s (G : Nat → Bool) (k : Nat) : anF G (k + 1) = (anF G k || G k) := rfl
def rsM (J : DJ) (f e p k : Nat) : Bool := decide (J 135 (30 * e + p + k) = J 144 (f + k))
def gdM (I : DI) (J : DJ) (t f s e p : Nat) : Bool := hitM I J t f (30 * e + p) && alF (rsM J f e p) 1 (s - 1)
def wgM (I : DI) (J : DJ) (t f s e p : Nat) : Int32 := if gdM I J t f s e p then I 137 (30 * e + p) else 0
def hsM (I : DI) (J : DJ) (t f s e m : Nat) : Int32 := if anF (gdM I J t f s e) (m + 1 - s) then sm (wgM I J t f s e) (m + 1 - s) else -1
theorem alF_snoc (g : Nat → Bool) : ∀ k t, alF g t (k + 1) = (alF g t k && g (t + k))
  | 0, t => by simp [alF]
  | k + 1, t => by rw [alF_s, alF_snoc g k (t + 1), alF_s g t k, show t + 1 + k = t + (k + 1) by omega, Bool.and_assoc]
set_option maxHeartbeats 4000000 in
set_option maxRecDepth 100000 in
theorem lpI_Md_hits {C : CT} {l : Launch} {S : ShT} {d : Nat} (hC : OKC C l) (hS : SHP S) (hd : 1 ≤ d) {I : DI} {J : DJ} {t f s e m : Nat} (ht : t < 40) (he : e < 16) (hs1 : 1 ≤ s) (hs4 : s ≤ 4) (hfs : f + s ≤ 60) (hm : m ≤ 30) (h142 : I 142 t = nI f) (h143 : I 143 t = nI s) (h134 : I 134 e = nI m) {p : Nat} {x z a : Int32} (hps : p + s ≤ m) (ex : x = nI p) (ih : ∀ (x' z' a' : Int32), x' = nI (p + 1) → z' = sm (wgM I J t f s e) (p + 1) → a' = bI (anF (gdM I J t f s e) (p + 1)) → V C l k_Md_hits (d, 0, 0) (PP (.int (hsM I J t f s e m)) S I J) 8 [(5, .int x'), (4, .int a'), (3, .int z'), (0, .ref 124), (1, .int (nI t)), (2, .int (nI e))] [] S I J (0, 0)) (ez : z = sm (wgM I J t f s e) p) (ea : a = bI (anF (gdM I J t f s e) p)) : ∀ (n0 k : Nat) (y g : Int32), y = nI k → 1 ≤ k → k ≤ s → g = bI (hitM I J t f (30 * e + p) && alF (rsM J f e p) 1 (k - 1)) → s < k + n0 → V C l k_Md_hits (d, 0, 0) (PP (.int (hsM I J t f s e m)) S I J) 43 [(7, .int y), (6, .int g), (5, .int x), (4, .int a), (3, .int z), (0, .ref 124), (1, .int (nI t)), (2, .int (nI e))] [] S I J (0, 0) := by
  intro n0
  induction n0 with
  | zero =>
    intro k y g ek hk1 hks0 eg hf
    omega
  | succ n0 ihk =>
    intro k y g ek hk1 hks0 eg hf
    refine v_iload 0 d_Md_hits_43 rfl rfl ?_
    refine v_aload_n 5 d_Md_hits_45 rfl rfl rfl ?_
    refine v_getr (r := 143) d_Md_hits_46 fl_Md_66 (hS.o (by decide) rfl) rfl (hS.r (by decide) rfl) rfl ?_
    refine v_iload_n 6 d_Md_hits_49 rfl rfl rfl ?_
    refine v_iald (j := t) d_Md_hits_50 (hS.a (t := 32) (n := 40) (by decide) rfl) rfl (by omega) (by decide) rfl ?_
    refine v_icmp_ge (tgt := 96) d_Md_hits_51 (by decide) rfl (fun c1 => ?_) (fun c1 => ?_)
    · have hks : k = s := by rcases Nat.lt_or_ge k s with h9 | h9; exact absurd c1 (by rw [ek, h143]; exact nI_ge h9 (by omega)); omega
      rw [hks] at eg
      refine v_iload 1 d_Md_hits_96 rfl rfl ?_
      refine v_if_ne (tgt := 104) d_Md_hits_98 (by decide) rfl (fun c2 => ?_) (fun c2 => ?_)
      · refine v_iconst (v := 1) d_Md_hits_104 (by decide) rfl ?_
        refine v_istore (L' := [(4, .int 1), (7, .int y), (6, .int g), (5, .int x), (3, .int z), (0, .ref 124), (1, .int (nI t)), (2, .int (nI e))]) d_Md_hits_105 (by decide) rfl rfl ?_
        refine v_iload_n 4 d_Md_hits_107 rfl rfl rfl ?_
        refine v_aload_n 5 d_Md_hits_108 rfl rfl rfl ?_
        refine v_getr (r := 137) d_Md_hits_109 fl_Md_48 (hS.o (by decide) rfl) rfl (hS.r (by decide) rfl) rfl ?_
        refine v_bipush (v := 30) d_Md_hits_112 (by decide) rfl ?_
        refine v_iload_n 7 d_Md_hits_114 rfl rfl rfl ?_
        refine v_imul d_Md_hits_115 rfl ?_
        refine v_nmi (fun z3 ez3 => ?_)
        have nz3 : z3 = nI (30 * e) := by rw [ez3, show 30 = nI 30 from rfl, show nI e = nI e from rfl]; exact pk_mul _ _
        refine v_iload 3 d_Md_hits_116 rfl rfl ?_
        refine v_iadd d_Md_hits_118 rfl ?_
        refine v_nmi (fun z4 ez4 => ?_)
        have nz4 : z4 = nI ((30 * e) + p) := by rw [ez4, show z3 = nI (30 * e) from nz3, show x = nI p from ex]; exact nI_add _ _
        refine v_iald (j := ((30 * e) + p)) d_Md_hits_119 (hS.a (t := 32) (n := 480) (by decide) rfl) nz4 (by omega) (by decide) rfl ?_
        refine v_iadd d_Md_hits_120 rfl ?_
        refine v_nmi (fun z5 ez5 => ?_)
        refine v_istore_n (L' := [(3, .int z5), (4, .int 1), (7, .int y), (6, .int g), (5, .int x), (0, .ref 124), (1, .int (nI t)), (2, .int (nI e))]) d_Md_hits_121 rfl (by decide) rfl rfl ?_
        obtain ⟨x6, ex6⟩ : ∃ y9 : Int32, y9 = x + 1 := ⟨_, rfl⟩
        have nx6 : x6 = nI (p + 1) := by rw [ex6, show x = nI p from ex]; exact nI_1 _
        refine v_iinc (n := 4) (v := x6) (L' := [(5, .int x6), (3, .int z5), (4, .int 1), (7, .int y), (6, .int g), (0, .ref 124), (1, .int (nI t)), (2, .int (nI e))]) d_Md_hits_122 rfl (by rw [ex6]; rfl) (by decide) rfl rfl ?_
        refine v_goto (tgt := 8) d_Md_hits_125 (by decide) ?_
        refine v_sub (L' := [(5, .int x6), (4, .int 1), (3, .int z5), (0, .ref 124), (1, .int (nI t)), (2, .int (nI e))]) [0, 2, 1, 5, 6, 7] rfl ?_
        have hgd : gdM I J t f s e p = true := bI_t (by rw [show gdM I J t f s e p = (hitM I J t f (30 * e + p) && alF (rsM J f e p) 1 (s - 1)) from rfl, ← eg]; exact c2)
        exact ih _ _ _ nx6 (by rw [sm_s, ← ez, ez5]; congr 1; unfold wgM; rw [hgd]; rfl) (by rw [anF_s, hgd, Bool.or_true]; rfl)
      · refine v_goto (tgt := 122) d_Md_hits_101 (by decide) ?_
        obtain ⟨x7, ex7⟩ : ∃ y9 : Int32, y9 = x + 1 := ⟨_, rfl⟩
        have nx7 : x7 = nI (p + 1) := by rw [ex7, show x = nI p from ex]; exact nI_1 _
        refine v_iinc (n := 2) (v := x7) (L' := [(5, .int x7), (7, .int y), (6, .int g), (4, .int a), (3, .int z), (0, .ref 124), (1, .int (nI t)), (2, .int (nI e))]) d_Md_hits_122 rfl (by rw [ex7]; rfl) (by decide) rfl rfl ?_
        refine v_goto (tgt := 8) d_Md_hits_125 (by decide) ?_
        refine v_sub (L' := [(5, .int x7), (4, .int a), (3, .int z), (0, .ref 124), (1, .int (nI t)), (2, .int (nI e))]) [0, 3, 4, 5, 6, 7] rfl ?_
        have hgd : gdM I J t f s e p = false := bI_f (by rw [show gdM I J t f s e p = (hitM I J t f (30 * e + p) && alF (rsM J f e p) 1 (s - 1)) from rfl, ← eg]; exact c2)
        exact ih _ _ _ nx7 (by rw [sm_s, ← ez]; unfold wgM; rw [hgd]; exact (Int32.add_zero z).symm) (by rw [anF_s, hgd, Bool.or_false]; exact ea)
    · have hks : k < s := by rcases Nat.lt_or_ge k s with h9 | h9; exact h9; exact absurd (by rw [ek, h143]; exact nI_le h9 (by omega)) c1
      refine v_aload_n 5 d_Md_hits_54 rfl rfl rfl ?_
      refine v_getr (r := 135) d_Md_hits_55 fl_Md_41 (hS.o (by decide) rfl) rfl (hS.r (by decide) rfl) rfl ?_
      refine v_bipush (v := 30) d_Md_hits_58 (by decide) rfl ?_
      refine v_iload_n 7 d_Md_hits_60 rfl rfl rfl ?_
      refine v_imul d_Md_hits_61 rfl ?_
      refine v_nmi (fun z8 ez8 => ?_)
      have nz8 : z8 = nI (30 * e) := by rw [ez8, show 30 = nI 30 from rfl, show nI e = nI e from rfl]; exact pk_mul _ _
      refine v_iload 2 d_Md_hits_62 rfl rfl ?_
      refine v_iadd d_Md_hits_64 rfl ?_
      refine v_nmi (fun z9 ez9 => ?_)
      have nz9 : z9 = nI ((30 * e) + p) := by rw [ez9, show z8 = nI (30 * e) from nz8, show x = nI p from ex]; exact nI_add _ _
      refine v_iload 0 d_Md_hits_65 rfl rfl ?_
      refine v_iadd d_Md_hits_67 rfl ?_
      refine v_nmi (fun z10 ez10 => ?_)
      have nz10 : z10 = nI (((30 * e) + p) + k) := by rw [ez10, show z9 = nI ((30 * e) + p) from nz9, show y = nI k from ek]; exact nI_add _ _
      refine v_lald (j := (((30 * e) + p) + k)) d_Md_hits_68 (hS.a (t := 34) (n := 480) (by decide) rfl) nz10 (by omega) (by decide) rfl ?_
      refine v_aload_n 5 d_Md_hits_69 rfl rfl rfl ?_
      refine v_getr (r := 144) d_Md_hits_70 fl_Md_69 (hS.o (by decide) rfl) rfl (hS.r (by decide) rfl) rfl ?_
      refine v_aload_n 5 d_Md_hits_73 rfl rfl rfl ?_
      refine v_getr (r := 142) d_Md_hits_74 fl_Md_63 (hS.o (by decide) rfl) rfl (hS.r (by decide) rfl) rfl ?_
      refine v_iload_n 6 d_Md_hits_77 rfl rfl rfl ?_
      refine v_iald (j := t) d_Md_hits_78 (hS.a (t := 32) (n := 40) (by decide) rfl) rfl (by omega) (by decide) rfl ?_
      refine v_iload 0 d_Md_hits_79 rfl rfl ?_
      refine v_iadd d_Md_hits_81 rfl ?_
      refine v_nmi (fun z11 ez11 => ?_)
      have nz11 : z11 = nI (f + k) := by rw [ez11, show I 142 t = nI f from h142, show y = nI k from ek]; exact nI_add _ _
      refine v_lald (j := (f + k)) d_Md_hits_82 (hS.a (t := 34) (n := 60) (by decide) rfl) nz11 (by omega) (by decide) rfl ?_
      refine v_lcmp d_Md_hits_83 rfl ?_
      refine v_nmi (fun z12 ez12 => ?_)
      refine v_if_eq (tgt := 90) d_Md_hits_84 (by decide) rfl (fun c13 => ?_) (fun c13 => ?_)
      · obtain ⟨x14, ex14⟩ : ∃ y9 : Int32, y9 = y + 1 := ⟨_, rfl⟩
        have nx14 : x14 = nI (k + 1) := by rw [ex14, show y = nI k from ek]; exact nI_1 _
        refine v_iinc (n := 0) (v := x14) (L' := [(7, .int x14), (6, .int g), (5, .int x), (4, .int a), (3, .int z), (0, .ref 124), (1, .int (nI t)), (2, .int (nI e))]) d_Md_hits_90 rfl (by rw [ex14]; rfl) (by decide) rfl rfl ?_
        refine v_goto (tgt := 43) d_Md_hits_93 (by decide) ?_
        have hrs : rsM J f e p k = true := decide_eq_true ((lg_cmp_0 _ _).mp (by rw [← ez12]; exact c13))
        refine ihk (k + 1) _ _ nx14 (by omega) (by omega) ?_ (by omega)
        rw [show k + 1 - 1 = (k - 1) + 1 by omega, alF_snoc, show 1 + (k - 1) = k by omega, hrs]
        rw [Bool.and_true]; exact eg
      · refine v_iconst (v := 0) d_Md_hits_87 (by decide) rfl ?_
        refine v_istore (L' := [(6, .int 0), (7, .int y), (5, .int x), (4, .int a), (3, .int z), (0, .ref 124), (1, .int (nI t)), (2, .int (nI e))]) d_Md_hits_88 (by decide) rfl rfl ?_
        obtain ⟨x15, ex15⟩ : ∃ y9 : Int32, y9 = y + 1 := ⟨_, rfl⟩
        have nx15 : x15 = nI (k + 1) := by rw [ex15, show y = nI k from ek]; exact nI_1 _
        refine v_iinc (n := 1) (v := x15) (L' := [(7, .int x15), (6, .int 0), (5, .int x), (4, .int a), (3, .int z), (0, .ref 124), (1, .int (nI t)), (2, .int (nI e))]) d_Md_hits_90 rfl (by rw [ex15]; rfl) (by decide) rfl rfl ?_
        refine v_goto (tgt := 43) d_Md_hits_93 (by decide) ?_
        have hrs : rsM J f e p k = false := decide_eq_false (fun h9 => c13 (by rw [ez12]; exact (lg_cmp_0 _ _).mpr h9))
        refine ihk (k + 1) _ _ nx15 (by omega) (by omega) ?_ (by omega)
        rw [show k + 1 - 1 = (k - 1) + 1 by omega, alF_snoc, show 1 + (k - 1) = k by omega, hrs]
        rw [Bool.and_false, Bool.and_false]; rfl
set_option maxHeartbeats 4000000 in
set_option maxRecDepth 100000 in
theorem lp_Md_hits {C : CT} {l : Launch} {S : ShT} {d : Nat} (hC : OKC C l) (hS : SHP S) (hd : 1 ≤ d) {I : DI} {J : DJ} {t f s e m : Nat} (ht : t < 40) (he : e < 16) (hs1 : 1 ≤ s) (hs4 : s ≤ 4) (hfs : f + s ≤ 60) (hm : m ≤ 30) (h142 : I 142 t = nI f) (h143 : I 143 t = nI s) (h134 : I 134 e = nI m) : ∀ (n0 : Nat) (p : Nat) (x z a : Int32), x = nI p → z = sm (wgM I J t f s e) p → a = bI (anF (gdM I J t f s e) p) → p ≤ m + 1 - s → m + 1 - s < p + n0 → V C l k_Md_hits (d, 0, 0) (PP (.int (hsM I J t f s e m)) S I J) 8 [(5, .int x), (4, .int a), (3, .int z), (0, .ref 124), (1, .int (nI t)), (2, .int (nI e))] [] S I J (0, 0) := by
  intro n0
  induction n0 with
  | zero =>
    intro p x z a ex ez ea hp0 hf
    omega
  | succ n0 ih =>
    intro p x z a ex ez ea hp0 hf
    refine v_iload 0 d_Md_hits_8 rfl rfl ?_
    refine v_aload_n 3 d_Md_hits_10 rfl rfl rfl ?_
    refine v_getr (r := 143) d_Md_hits_11 fl_Md_66 (hS.o (by decide) rfl) rfl (hS.r (by decide) rfl) rfl ?_
    refine v_iload_n 4 d_Md_hits_14 rfl rfl rfl ?_
    refine v_iald (j := t) d_Md_hits_15 (hS.a (t := 32) (n := 40) (by decide) rfl) rfl (by omega) (by decide) rfl ?_
    refine v_iadd d_Md_hits_16 rfl ?_
    refine v_nmi (fun z1 ez1 => ?_)
    have nz1 : z1 = nI (p + s) := by rw [ez1, show x = nI p from ex, show I 143 t = nI s from h143]; exact nI_add _ _
    refine v_aload_n 3 d_Md_hits_17 rfl rfl rfl ?_
    refine v_getr (r := 134) d_Md_hits_18 fl_Md_38 (hS.o (by decide) rfl) rfl (hS.r (by decide) rfl) rfl ?_
    refine v_iload_n 5 d_Md_hits_21 rfl rfl rfl ?_
    refine v_iald (j := e) d_Md_hits_22 (hS.a (t := 32) (n := 16) (by decide) rfl) rfl (by omega) (by decide) rfl ?_
    refine v_icmp_gt (tgt := 128) d_Md_hits_23 (by decide) rfl (fun c2 => ?_) (fun c2 => ?_)
    · refine v_iload 1 d_Md_hits_128 rfl rfl ?_
      refine v_if_eq (tgt := 137) d_Md_hits_130 (by decide) rfl (fun c3 => ?_) (fun c3 => ?_)
      · refine v_iconst (v := (-1)) d_Md_hits_137 (by decide) rfl ?_
        refine v_iret d_Md_hits_138 rfl ?_
        have hpe : p = m + 1 - s := by rcases Nat.lt_or_ge m (p + s) with h9 | h9; omega; exact absurd c2 (by rw [nz1, h134]; exact nI_nlt h9 (by omega))
        exact ⟨congrArg (fun z => some (Value.int z)) (show _ = hsM I J t f s e m from by unfold hsM; rw [← hpe, show anF (gdM I J t f s e) p = false from bI_f (by rw [← ea]; exact c3)]; rfl), rfl, rfl, rfl⟩
      · refine v_iload_n 2 d_Md_hits_133 rfl rfl rfl ?_
        refine v_goto (tgt := 138) d_Md_hits_134 (by decide) ?_
        refine v_iret d_Md_hits_138 rfl ?_
        have hpe : p = m + 1 - s := by rcases Nat.lt_or_ge m (p + s) with h9 | h9; omega; exact absurd c2 (by rw [nz1, h134]; exact nI_nlt h9 (by omega))
        exact ⟨congrArg (fun z => some (Value.int z)) (show _ = hsM I J t f s e m from by unfold hsM; rw [← hpe, show anF (gdM I J t f s e) p = true from bI_t (by rw [← ea]; exact c3), if_pos rfl]; exact ez), rfl, rfl, rfl⟩
    · have hps : p + s ≤ m := by rcases Nat.lt_or_ge m (p + s) with h9 | h9; exact absurd (by rw [nz1, h134]; exact nI_lt h9 (by omega)) c2; exact h9
      refine v_aload_n 3 d_Md_hits_26 rfl rfl rfl ?_
      refine v_iload_n 4 d_Md_hits_27 rfl rfl rfl ?_
      refine v_bipush (v := 30) d_Md_hits_28 (by decide) rfl ?_
      refine v_iload_n 5 d_Md_hits_30 rfl rfl rfl ?_
      refine v_imul d_Md_hits_31 rfl ?_
      refine v_nmi (fun z4 ez4 => ?_)
      have nz4 : z4 = nI (30 * e) := by rw [ez4, show 30 = nI 30 from rfl, show nI e = nI e from rfl]; exact pk_mul _ _
      refine v_iload 0 d_Md_hits_32 rfl rfl ?_
      refine v_iadd d_Md_hits_34 rfl ?_
      refine v_nmi (fun z5 ez5 => ?_)
      have nz5 : z5 = nI ((30 * e) + p) := by rw [ez5, show z4 = nI (30 * e) from nz4, show x = nI p from ex]; exact nI_add _ _
      refine v_cVp (as := [.int (nI t), .int z5]) d_Md_hits_35 cs_Md_172 (c_Md_hit hC hS (d := d - 1) (t := t) (f := f) (p := 30 * e + p) ht (by omega) (by omega) h142 nz5 (by omega)) (hS.o (by decide) rfl) (by decide) rfl rfl rfl (by decide) (by omega) rfl ?_
      refine v_istore (L' := [(6, .int (bI (hitM I J t f (30 * e + p)))), (5, .int x), (4, .int a), (3, .int z), (0, .ref 124), (1, .int (nI t)), (2, .int (nI e))]) d_Md_hits_38 (by decide) rfl rfl ?_
      refine v_iconst (v := 1) d_Md_hits_40 (by decide) rfl ?_
      refine v_istore (L' := [(7, .int 1), (6, .int (bI (hitM I J t f (30 * e + p)))), (5, .int x), (4, .int a), (3, .int z), (0, .ref 124), (1, .int (nI t)), (2, .int (nI e))]) d_Md_hits_41 (by decide) rfl rfl ?_
      exact lpI_Md_hits hC hS hd ht he hs1 hs4 hfs hm h142 h143 h134 hps ex (fun x1 z1 a1 q1 q2 q3 => ih (p + 1) x1 z1 a1 q1 q2 q3 (by omega) (by omega)) ez ea 5 1 _ _ rfl (by omega) (by omega) (by rw [show (1 : Nat) - 1 = 0 from rfl]; simp [alF]) (by omega)
set_option maxHeartbeats 4000000 in
set_option maxRecDepth 100000 in
theorem c_Md_hits {C : CT} {l : Launch} {S : ShT} {I : DI} {J : DJ} {d : Nat} (hC : OKC C l) (hS : SHP S) {t f s e m : Nat} (ht : t < 40) (he : e < 16) (hs1 : 1 ≤ s) (hs4 : s ≤ 4) (hfs : f + s ≤ 60) (hm : m ≤ 30) (h142 : I 142 t = nI f) (h143 : I 143 t = nI s) (h134 : I 134 e = nI m) (hd : 1 ≤ d) : Sp C l k_Md_hits y_Md_hits (d, 0, 0) [.ref 124, .int (nI t), .int (nI e)] S I J (PP (.int (hsM I J t f s e m)) S I J) := by
  refine Sp.of hC cd_Md_hits (Nat.le_of_ble_eq_true rfl) ?_
  show V C l k_Md_hits (d, 0, 0) _ 0 [(0, .ref 124), (1, .int (nI t)), (2, .int (nI e))] [] S I J (0, 0)
  refine v_iconst (v := 0) d_Md_hits_0 (by decide) rfl ?_
  refine v_istore_n (L' := [(3, .int 0), (0, .ref 124), (1, .int (nI t)), (2, .int (nI e))]) d_Md_hits_1 rfl (by decide) rfl rfl ?_
  refine v_iconst (v := 0) d_Md_hits_2 (by decide) rfl ?_
  refine v_istore (L' := [(4, .int 0), (3, .int 0), (0, .ref 124), (1, .int (nI t)), (2, .int (nI e))]) d_Md_hits_3 (by decide) rfl rfl ?_
  refine v_iconst (v := 0) d_Md_hits_5 (by decide) rfl ?_
  refine v_istore (L' := [(5, .int 0), (4, .int 0), (3, .int 0), (0, .ref 124), (1, .int (nI t)), (2, .int (nI e))]) d_Md_hits_6 (by decide) rfl rfl ?_
  exact lp_Md_hits hC hS hd ht he hs1 hs4 hfs hm h142 h143 h134 (m + 2) 0 _ _ _ rfl rfl rfl (by omega) (by omega)
def scM (of : Nat → Bool) (wo : Nat → Bool) (h : Nat → Int32) : Nat → Nat → Int32 → Int32
  | 0, _, z => z
  | k + 1, i, z => if of i then (if wo i then (if h i < 0 then scM of wo h k (i + 1) z else -1) else (if h i < 0 then -1 else scM of wo h k (i + 1) (z + h i))) else scM of wo h k (i + 1) z
theorem scM_s (of wo : Nat → Bool) (h : Nat → Int32) (k i : Nat) (z : Int32) : scM of wo h (k + 1) i z = if of i then (if wo i then (if h i < 0 then scM of wo h k (i + 1) z else -1) else (if h i < 0 then -1 else scM of wo h k (i + 1) (z + h i))) else scM of wo h k (i + 1) z := rfl
def TmW (I : DI) (k : Nat) (fz sz : Nat → Nat) : Prop := ∀ i, i < k → I 142 i = nI (fz i) ∧ I 143 i = nI (sz i) ∧ fz i + sz i ≤ 60 ∧ 1 ≤ sz i ∧ sz i ≤ 4
def ofM (I : DI) (y : Int32) (i : Nat) : Bool := decide (I 139 i = y)
def woM (I : DI) (i : Nat) : Bool := !decide (I 140 i = 0)
def hzM (I : DI) (J : DJ) (e m : Nat) (fz sz : Nat → Nat) (i : Nat) : Int32 := hsM I J i (fz i) (sz i) e m
def sreM (I : DI) (J : DJ) (e m k : Nat) (fz sz : Nat → Nat) (y : Int32) : Int32 := scM (ofM I y) (woM I) (hzM I J e m fz sz) k 0 0
set_option maxHeartbeats 4000000 in
set_option maxRecDepth 100000 in
theorem lp_Md_score {C : CT} {l : Launch} {S : ShT} {d : Nat} (hC : OKC C l) (hS : SHP S) (hd : 2 ≤ d) {I : DI} {J : DJ} {e m k : Nat} {fz sz : Nat → Nat} {y : Int32} (he : e < 16) (hm : m ≤ 30) (hk : k ≤ 40) (h24 : I 124 24 = nI k) (h134 : I 134 e = nI m) (hT : TmW I k fz sz) : ∀ (n0 : Nat) (i : Nat) (x z : Int32), x = nI i → i ≤ k → k < i + n0 → sreM I J e m k fz sz y = scM (ofM I y) (woM I) (hzM I J e m fz sz) (k - i) i z → V C l k_Md_score (d, 0, 0) (PP (.int (sreM I J e m k fz sz y)) S I J) 5 [(4, .int x), (3, .int z), (0, .ref 124), (1, .int y), (2, .int (nI e))] [] S I J (0, 0) := by
  intro n0
  induction n0 with
  | zero =>
    intro i x z ex hi0 hf hr
    omega
  | succ n0 ih =>
    intro i x z ex hi0 hf hr
    refine v_iload 0 d_Md_score_5 rfl rfl ?_
    refine v_aload_n 2 d_Md_score_7 rfl rfl rfl ?_
    refine v_geti d_Md_score_8 fl_Md_163 (hS.o (by decide) rfl) rfl rfl ?_
    refine v_icmp_ge (tgt := 83) d_Md_score_11 (by decide) rfl (fun c1 => ?_) (fun c1 => ?_)
    · refine v_iload_n 1 d_Md_score_83 rfl rfl rfl ?_
      refine v_iret d_Md_score_84 rfl ?_
      have hik : i = k := by rcases Nat.lt_or_ge i k with h9 | h9; exact absurd c1 (by rw [ex, h24]; exact nI_ge h9 (by omega)); omega
      rw [hik, Nat.sub_self] at hr
      exact ⟨by rw [hr]; rfl, rfl, rfl, rfl⟩
    · have hik : i < k := by rcases Nat.lt_or_ge i k with h9 | h9; exact h9; exact absurd (by rw [ex, h24]; exact nI_le h9 (by omega)) c1
      rw [show k - i = (k - (i + 1)) + 1 by omega, scM_s] at hr
      refine v_aload_n 2 d_Md_score_14 rfl rfl rfl ?_
      refine v_getr (r := 139) d_Md_score_15 fl_Md_54 (hS.o (by decide) rfl) rfl (hS.r (by decide) rfl) rfl ?_
      refine v_iload 0 d_Md_score_18 rfl rfl ?_
      refine v_iald (j := i) d_Md_score_20 (hS.a (t := 32) (n := 40) (by decide) rfl) ex (by omega) (by decide) rfl ?_
      refine v_iload_n 3 d_Md_score_21 rfl rfl rfl ?_
      refine v_icmp_eq (tgt := 28) d_Md_score_22 (by decide) rfl (fun c2 => ?_) (fun c2 => ?_)
      · refine v_aload_n 2 d_Md_score_28 rfl rfl rfl ?_
        refine v_iload 0 d_Md_score_29 rfl rfl ?_
        refine v_iload_n 4 d_Md_score_31 rfl rfl rfl ?_
        refine v_cVp (as := [.int x, .int (nI e)]) d_Md_score_32 cs_Md_175 (by rw [ex]; exact c_Md_hits hC hS (d := d - 1) (t := i) (f := fz i) (s := sz i) (e := e) (m := m) (by omega) he (hT i hik).2.2.2.1 (hT i hik).2.2.2.2 (hT i hik).2.2.1 hm (hT i hik).1 (hT i hik).2.1 h134 (by omega)) (hS.o (by decide) rfl) (by decide) rfl rfl rfl (by decide) (by omega) rfl ?_
        obtain ⟨hv, hhv⟩ : ∃ z : Int32, z = hzM I J e m fz sz i := ⟨_, rfl⟩
        rw [show hsM I J i (fz i) (sz i) e m = hv from hhv.symm]
        refine v_istore (L' := [(5, .int hv), (4, .int x), (3, .int z), (0, .ref 124), (1, .int y), (2, .int (nI e))]) d_Md_score_35 (by decide) rfl rfl ?_
        refine v_aload_n 3 d_Md_score_37 rfl rfl rfl ?_
        refine v_getr (r := 140) d_Md_score_38 fl_Md_57 (hS.o (by decide) rfl) rfl (hS.r (by decide) rfl) rfl ?_
        refine v_iload 1 d_Md_score_41 rfl rfl ?_
        refine v_zald (j := i) d_Md_score_43 (hS.a (t := 33) (n := 40) (by decide) rfl) ex (by omega) (by decide) rfl ?_
        refine v_if_eq (tgt := 55) d_Md_score_44 (by decide) rfl (fun c3 => ?_) (fun c3 => ?_)
        · refine v_iload 0 d_Md_score_55 rfl rfl ?_
          refine v_if_ge (tgt := 62) d_Md_score_57 (by decide) rfl (fun c4 => ?_) (fun c4 => ?_)
          · refine v_aload_n 3 d_Md_score_62 rfl rfl rfl ?_
            refine v_getr (r := 140) d_Md_score_63 fl_Md_57 (hS.o (by decide) rfl) rfl (hS.r (by decide) rfl) rfl ?_
            refine v_iload 1 d_Md_score_66 rfl rfl ?_
            refine v_zald (j := i) d_Md_score_68 (hS.a (t := 33) (n := 40) (by decide) rfl) ex (by omega) (by decide) rfl ?_
            refine v_if_ne (tgt := 77) d_Md_score_69 (by decide) rfl (fun c5 => ?_) (fun c5 => ?_)
            · exact absurd c3 c5
            · refine v_iload_n 2 d_Md_score_72 rfl rfl rfl ?_
              refine v_iload 0 d_Md_score_73 rfl rfl ?_
              refine v_iadd d_Md_score_75 rfl ?_
              refine v_nmi (fun z6 ez6 => ?_)
              refine v_istore_n (L' := [(3, .int z6), (5, .int hv), (4, .int x), (0, .ref 124), (1, .int y), (2, .int (nI e))]) d_Md_score_76 rfl (by decide) rfl rfl ?_
              obtain ⟨x7, ex7⟩ : ∃ y9 : Int32, y9 = x + 1 := ⟨_, rfl⟩
              have nx7 : x7 = nI (i + 1) := by rw [ex7, show x = nI i from ex]; exact nI_1 _
              refine v_iinc (n := 2) (v := x7) (L' := [(4, .int x7), (3, .int z6), (5, .int hv), (0, .ref 124), (1, .int y), (2, .int (nI e))]) d_Md_score_77 rfl (by rw [ex7]; rfl) (by decide) rfl rfl ?_
              refine v_goto (tgt := 5) d_Md_score_80 (by decide) ?_
              refine v_sub (L' := [(4, .int x7), (3, .int z6), (0, .ref 124), (1, .int y), (2, .int (nI e))]) [0, 1, 3, 4, 5] rfl ?_
              rw [show ofM I y i = true from decide_eq_true c2, if_pos rfl, ← hhv] at hr
              rw [show woM I i = false from by unfold woM; rw [decide_eq_true c3]; rfl, if_neg (by decide), if_neg (Int32.not_lt.mpr c4), ← ez6] at hr
              exact ih (i + 1) _ _ nx7 (by omega) (by omega) hr
          · refine v_iconst (v := (-1)) d_Md_score_60 (by decide) rfl ?_
            refine v_iret d_Md_score_61 rfl ?_
            rw [show ofM I y i = true from decide_eq_true c2, if_pos rfl, ← hhv] at hr
            rw [show woM I i = false from by unfold woM; rw [decide_eq_true c3]; rfl, if_neg (by decide), if_pos (Int32.not_le.mp c4)] at hr
            exact ⟨by rw [hr], rfl, rfl, rfl⟩
        · refine v_iload 0 d_Md_score_47 rfl rfl ?_
          refine v_if_lt (tgt := 62) d_Md_score_49 (by decide) rfl (fun c8 => ?_) (fun c8 => ?_)
          · refine v_aload_n 3 d_Md_score_62 rfl rfl rfl ?_
            refine v_getr (r := 140) d_Md_score_63 fl_Md_57 (hS.o (by decide) rfl) rfl (hS.r (by decide) rfl) rfl ?_
            refine v_iload 1 d_Md_score_66 rfl rfl ?_
            refine v_zald (j := i) d_Md_score_68 (hS.a (t := 33) (n := 40) (by decide) rfl) ex (by omega) (by decide) rfl ?_
            refine v_if_ne (tgt := 77) d_Md_score_69 (by decide) rfl (fun c9 => ?_) (fun c9 => ?_)
            · obtain ⟨x10, ex10⟩ : ∃ y9 : Int32, y9 = x + 1 := ⟨_, rfl⟩
              have nx10 : x10 = nI (i + 1) := by rw [ex10, show x = nI i from ex]; exact nI_1 _
              refine v_iinc (n := 1) (v := x10) (L' := [(4, .int x10), (5, .int hv), (3, .int z), (0, .ref 124), (1, .int y), (2, .int (nI e))]) d_Md_score_77 rfl (by rw [ex10]; rfl) (by decide) rfl rfl ?_
              refine v_goto (tgt := 5) d_Md_score_80 (by decide) ?_
              refine v_sub (L' := [(4, .int x10), (3, .int z), (0, .ref 124), (1, .int y), (2, .int (nI e))]) [0, 2, 3, 4, 5] rfl ?_
              rw [show ofM I y i = true from decide_eq_true c2, if_pos rfl, ← hhv] at hr
              rw [show woM I i = true from by unfold woM; rw [decide_eq_false c3]; rfl, if_pos rfl, if_pos c8] at hr
              exact ih (i + 1) _ _ nx10 (by omega) (by omega) hr
            · exact absurd c9 c3
          · refine v_goto (tgt := 60) d_Md_score_52 (by decide) ?_
            refine v_iconst (v := (-1)) d_Md_score_60 (by decide) rfl ?_
            refine v_iret d_Md_score_61 rfl ?_
            rw [show ofM I y i = true from decide_eq_true c2, if_pos rfl, ← hhv] at hr
            rw [show woM I i = true from by unfold woM; rw [decide_eq_false c3]; rfl, if_pos rfl, if_neg c8] at hr
            exact ⟨by rw [hr], rfl, rfl, rfl⟩
      · refine v_goto (tgt := 77) d_Md_score_25 (by decide) ?_
        obtain ⟨x11, ex11⟩ : ∃ y9 : Int32, y9 = x + 1 := ⟨_, rfl⟩
        have nx11 : x11 = nI (i + 1) := by rw [ex11, show x = nI i from ex]; exact nI_1 _
        refine v_iinc (n := 0) (v := x11) (L' := [(4, .int x11), (3, .int z), (0, .ref 124), (1, .int y), (2, .int (nI e))]) d_Md_score_77 rfl (by rw [ex11]; rfl) (by decide) rfl rfl ?_
        refine v_goto (tgt := 5) d_Md_score_80 (by decide) ?_
        rw [show ofM I y i = false from decide_eq_false c2, if_neg (by decide)] at hr
        exact ih (i + 1) _ _ nx11 (by omega) (by omega) hr
set_option maxHeartbeats 4000000 in
set_option maxRecDepth 100000 in
theorem c_Md_score {C : CT} {l : Launch} {S : ShT} {I : DI} {J : DJ} {d : Nat} (hC : OKC C l) (hS : SHP S) {e m k : Nat} {fz sz : Nat → Nat}  (he : e < 16) (hm : m ≤ 30) (hk : k ≤ 40) (h24 : I 124 24 = nI k) (h134 : I 134 e = nI m) (hT : TmW I k fz sz) (y : Int32) (hd : 2 ≤ d) : Sp C l k_Md_score y_Md_score (d, 0, 0) [.ref 124, .int y, .int (nI e)] S I J (PP (.int (sreM I J e m k fz sz y)) S I J) := by
  refine Sp.of hC cd_Md_score (Nat.le_of_ble_eq_true rfl) ?_
  show V C l k_Md_score (d, 0, 0) _ 0 [(0, .ref 124), (1, .int y), (2, .int (nI e))] [] S I J (0, 0)
  refine v_iconst (v := 0) d_Md_score_0 (by decide) rfl ?_
  refine v_istore_n (L' := [(3, .int 0), (0, .ref 124), (1, .int y), (2, .int (nI e))]) d_Md_score_1 rfl (by decide) rfl rfl ?_
  refine v_iconst (v := 0) d_Md_score_2 (by decide) rfl ?_
  refine v_istore (L' := [(4, .int 0), (3, .int 0), (0, .ref 124), (1, .int y), (2, .int (nI e))]) d_Md_score_3 (by decide) rfl rfl ?_
  exact lp_Md_score hC hS hd he hm hk h24 h134 hT (k + 1) 0 _ _ rfl (by omega) (by omega) rfl
