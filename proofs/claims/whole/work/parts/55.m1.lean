/-! ===== THE MODEL, 1 ===== -/
def inB (x a b : Int32) : Bool := !decide (x < a) && !decide (b < x)
theorem i_16 (x : Int32) : (15 : Int32) < x ↔ 16 ≤ x := by
  rw [Int32.lt_iff_toInt_lt, Int32.le_iff_toInt_le]
  rw [show (15 : Int32).toInt = 15 from rfl, show (16 : Int32).toInt = 16 from rfl]
  omega
theorem inB_nd (x : Int32) : inB x 0 15 = isNd x := by unfold inB isNd; rw [decide_eq_decide.mpr (i_16 x)]
theorem inB_nb (x : Int32) : inB x 1 15 = isNb x := by unfold inB isNb; rw [decide_eq_decide.mpr (i_16 x)]
/-- a node's state in the model's cells: 0, 1 a folder, 2 a file -/
def mst (I : DI) (j : Nat) : Int32 := if I 125 j = 0 then 0 else if I 126 j = 0 then 2 else 1
def mdS (I : DI) (x : Int32) : Int32 := if isNd x then mst I x.toNatClampNeg else 0
theorem mdS_j {I : DI} {j : Nat} (h : j < 16) : mdS I (nI j) = mst I j := by
  unfold mdS
  rw [if_pos (isNd_nI h), nI_clamp (by omega)]
theorem mdS_n {I : DI} {x : Int32} (h : isNd x = false) : mdS I x = 0 := by
  unfold mdS
  rw [h]
  rfl
set_option maxHeartbeats 4000000 in
set_option maxRecDepth 100000 in
theorem c_Md_thrown {C : CT} {l : Launch} {S : ShT} {I : DI} {J : DJ} {d : Nat} (hC : OKC C l) (hS : SHP S) (hd : 0 ≤ d) : Sp C l k_Md_thrown y_Md_thrown (d, 0, 0) [.ref 124] S I J (PP (.int (I 124 0)) S I J) := by
  refine Sp.of hC cd_Md_thrown (Nat.le_of_ble_eq_true rfl) ?_
  show V C l k_Md_thrown (d, 0, 0) _ 0 [(0, .ref 124)] [] S I J (0, 0)
  refine v_aload_n 0 d_Md_thrown_0 rfl rfl rfl ?_
  refine v_geti d_Md_thrown_1 fl_Md_85 (hS.o (by decide) rfl) rfl rfl ?_
  refine v_iret d_Md_thrown_4 rfl ?_
  exact ⟨rfl, rfl, rfl, rfl⟩
set_option maxHeartbeats 4000000 in
set_option maxRecDepth 100000 in
theorem c_Md_raise {C : CT} {l : Launch} {S : ShT} {I : DI} {J : DJ} {d : Nat} (hC : OKC C l) (hS : SHP S) (x : Int32) (hd : 0 ≤ d) : Sp C l k_Md_raise y_Md_raise (d, 0, 0) [.ref 124, .int x] S I J (PI S J (fun y I' => y = 0 ∧ I' = u2 I 124 0 x)) := by
  refine Sp.of hC cd_Md_raise (Nat.le_of_ble_eq_true rfl) ?_
  show V C l k_Md_raise (d, 0, 0) _ 0 [(0, .ref 124), (1, .int x)] [] S I J (0, 0)
  refine v_aload_n 0 d_Md_raise_0 rfl rfl rfl ?_
  refine v_iload_n 1 d_Md_raise_1 rfl rfl rfl ?_
  refine v_puti d_Md_raise_2 fl_Md_85 (hS.o (by decide) rfl) rfl rfl rfl ?_
  generalize hI1 : u2 I 124 0 x = I1
  refine v_iconst (v := 0) d_Md_raise_5 (by decide) rfl ?_
  refine v_iret d_Md_raise_6 rfl ?_
  exact ⟨rfl, rfl, _, rfl, rfl, rfl⟩
set_option maxHeartbeats 4000000 in
set_option maxRecDepth 100000 in
theorem c_Md_in {C : CT} {l : Launch} {S : ShT} {I : DI} {J : DJ} {d : Nat} (hC : OKC C l) (x a b : Int32) (hd : 0 ≤ d) : Sp C l k_Md_in y_Md_in (d, 0, 0) [.int x, .int a, .int b] S I J (PP (.int (bI (inB x a b))) S I J) := by
  refine Sp.of hC cd_Md_in (Nat.le_of_ble_eq_true rfl) ?_
  show V C l k_Md_in (d, 0, 0) _ 0 [(0, .int x), (1, .int a), (2, .int b)] [] S I J (0, 0)
  refine v_iload_n 0 d_Md_in_0 rfl rfl rfl ?_
  refine v_iload_n 1 d_Md_in_1 rfl rfl rfl ?_
  refine v_icmp_lt (tgt := 14) d_Md_in_2 (by decide) rfl (fun c1 => ?_) (fun c1 => ?_)
  · refine v_iconst (v := 0) d_Md_in_14 (by decide) rfl ?_
    refine v_zret d_Md_in_15 rfl (Or.inl rfl) ?_
    exact ⟨congrArg (fun z => some (Value.int z)) (show _ = bI (inB x a b) from by unfold inB; rw [decide_eq_true c1]; rfl), rfl, rfl, rfl⟩
  · refine v_iload_n 0 d_Md_in_5 rfl rfl rfl ?_
    refine v_iload_n 2 d_Md_in_6 rfl rfl rfl ?_
    refine v_icmp_gt (tgt := 14) d_Md_in_7 (by decide) rfl (fun c2 => ?_) (fun c2 => ?_)
    · refine v_iconst (v := 0) d_Md_in_14 (by decide) rfl ?_
      refine v_zret d_Md_in_15 rfl (Or.inl rfl) ?_
      exact ⟨congrArg (fun z => some (Value.int z)) (show _ = bI (inB x a b) from by unfold inB; rw [decide_eq_true c2, Bool.not_true, Bool.and_false]; rfl), rfl, rfl, rfl⟩
    · refine v_iconst (v := 1) d_Md_in_10 (by decide) rfl ?_
      refine v_goto (tgt := 15) d_Md_in_11 (by decide) ?_
      refine v_zret d_Md_in_15 rfl (Or.inr rfl) ?_
      exact ⟨congrArg (fun z => some (Value.int z)) (show _ = bI (inB x a b) from by unfold inB; rw [decide_eq_false c1, decide_eq_false c2]; rfl), rfl, rfl, rfl⟩
set_option maxHeartbeats 4000000 in
set_option maxRecDepth 100000 in
theorem c_Md_isFolder {C : CT} {l : Launch} {S : ShT} {I : DI} {J : DJ} {d : Nat} (hC : OKC C l) (hS : SHP S) (x : Int32) (hd : 1 ≤ d) : Sp C l k_Md_isFolder y_Md_isFolder (d, 0, 0) [.ref 124, .int x] S I J (PP (.int (bI (decide (mdS I x = 1)))) S I J) := by
  refine Sp.of hC cd_Md_isFolder (Nat.le_of_ble_eq_true rfl) ?_
  show V C l k_Md_isFolder (d, 0, 0) _ 0 [(0, .ref 124), (1, .int x)] [] S I J (0, 0)
  refine v_iload_n 1 d_Md_isFolder_0 rfl rfl rfl ?_
  refine v_iconst (v := 0) d_Md_isFolder_1 (by decide) rfl ?_
  refine v_bipush (v := 15) d_Md_isFolder_2 (by decide) rfl ?_
  refine v_cSp (as := [.int x, .int 0, .int 15]) d_Md_isFolder_4 cs_Md_88 (c_Md_in hC (d := d - 1) x 0 15 (by omega)) rfl rfl (by decide) (by omega) rfl ?_
  refine v_if_eq (tgt := 32) d_Md_isFolder_7 (by decide) rfl (fun c1 => ?_) (fun c1 => ?_)
  · refine v_iconst (v := 0) d_Md_isFolder_32 (by decide) rfl ?_
    refine v_zret d_Md_isFolder_33 rfl (Or.inl rfl) ?_
    exact ⟨congrArg (fun z => some (Value.int z)) (show _ = bI (decide (mdS I x = 1)) from by rw [mdS_n (by rw [← inB_nd]; exact bI_f c1)]; rfl), rfl, rfl, rfl⟩
  · have hnd : isNd x = true := by rw [← inB_nd]; exact bI_t c1
    obtain ⟨j, hj, ex⟩ := isNd_j hnd
    refine v_aload_n 0 d_Md_isFolder_10 rfl rfl rfl ?_
    refine v_getr (r := 125) d_Md_isFolder_11 fl_Md_7 (hS.o (by decide) rfl) rfl (hS.r (by decide) rfl) rfl ?_
    refine v_iload_n 1 d_Md_isFolder_14 rfl rfl rfl ?_
    refine v_zald (j := j) d_Md_isFolder_15 (hS.a (t := 33) (n := 16) (by decide) rfl) ex (by omega) (by decide) rfl ?_
    refine v_if_eq (tgt := 32) d_Md_isFolder_16 (by decide) rfl (fun c2 => ?_) (fun c2 => ?_)
    · refine v_iconst (v := 0) d_Md_isFolder_32 (by decide) rfl ?_
      refine v_zret d_Md_isFolder_33 rfl (Or.inl rfl) ?_
      exact ⟨congrArg (fun z => some (Value.int z)) (show _ = bI (decide (mdS I x = 1)) from by rw [ex, mdS_j hj, mst, if_pos c2]; rfl), rfl, rfl, rfl⟩
    · refine v_aload_n 0 d_Md_isFolder_19 rfl rfl rfl ?_
      refine v_getr (r := 126) d_Md_isFolder_20 fl_Md_13 (hS.o (by decide) rfl) rfl (hS.r (by decide) rfl) rfl ?_
      refine v_iload_n 1 d_Md_isFolder_23 rfl rfl rfl ?_
      refine v_zald (j := j) d_Md_isFolder_24 (hS.a (t := 33) (n := 16) (by decide) rfl) ex (by omega) (by decide) rfl ?_
      refine v_if_eq (tgt := 32) d_Md_isFolder_25 (by decide) rfl (fun c3 => ?_) (fun c3 => ?_)
      · refine v_iconst (v := 0) d_Md_isFolder_32 (by decide) rfl ?_
        refine v_zret d_Md_isFolder_33 rfl (Or.inl rfl) ?_
        exact ⟨congrArg (fun z => some (Value.int z)) (show _ = bI (decide (mdS I x = 1)) from by rw [ex, mdS_j hj, mst, if_neg c2, if_pos c3]; rfl), rfl, rfl, rfl⟩
      · refine v_iconst (v := 1) d_Md_isFolder_28 (by decide) rfl ?_
        refine v_goto (tgt := 33) d_Md_isFolder_29 (by decide) ?_
        refine v_zret d_Md_isFolder_33 rfl (Or.inr rfl) ?_
        exact ⟨congrArg (fun z => some (Value.int z)) (show _ = bI (decide (mdS I x = 1)) from by rw [ex, mdS_j hj, mst, if_neg c2, if_neg c3]; rfl), rfl, rfl, rfl⟩
set_option maxHeartbeats 4000000 in
set_option maxRecDepth 100000 in
theorem c_Md_isFile {C : CT} {l : Launch} {S : ShT} {I : DI} {J : DJ} {d : Nat} (hC : OKC C l) (hS : SHP S) (x : Int32) (hd : 1 ≤ d) : Sp C l k_Md_isFile y_Md_isFile (d, 0, 0) [.ref 124, .int x] S I J (PP (.int (bI (decide (mdS I x = 2)))) S I J) := by
  refine Sp.of hC cd_Md_isFile (Nat.le_of_ble_eq_true rfl) ?_
  show V C l k_Md_isFile (d, 0, 0) _ 0 [(0, .ref 124), (1, .int x)] [] S I J (0, 0)
  refine v_iload_n 1 d_Md_isFile_0 rfl rfl rfl ?_
  refine v_iconst (v := 0) d_Md_isFile_1 (by decide) rfl ?_
  refine v_bipush (v := 15) d_Md_isFile_2 (by decide) rfl ?_
  refine v_cSp (as := [.int x, .int 0, .int 15]) d_Md_isFile_4 cs_Md_88 (c_Md_in hC (d := d - 1) x 0 15 (by omega)) rfl rfl (by decide) (by omega) rfl ?_
  refine v_if_eq (tgt := 32) d_Md_isFile_7 (by decide) rfl (fun c1 => ?_) (fun c1 => ?_)
  · refine v_iconst (v := 0) d_Md_isFile_32 (by decide) rfl ?_
    refine v_zret d_Md_isFile_33 rfl (Or.inl rfl) ?_
    exact ⟨congrArg (fun z => some (Value.int z)) (show _ = bI (decide (mdS I x = 2)) from by rw [mdS_n (by rw [← inB_nd]; exact bI_f c1)]; rfl), rfl, rfl, rfl⟩
  · have hnd : isNd x = true := by rw [← inB_nd]; exact bI_t c1
    obtain ⟨j, hj, ex⟩ := isNd_j hnd
    refine v_aload_n 0 d_Md_isFile_10 rfl rfl rfl ?_
    refine v_getr (r := 125) d_Md_isFile_11 fl_Md_7 (hS.o (by decide) rfl) rfl (hS.r (by decide) rfl) rfl ?_
    refine v_iload_n 1 d_Md_isFile_14 rfl rfl rfl ?_
    refine v_zald (j := j) d_Md_isFile_15 (hS.a (t := 33) (n := 16) (by decide) rfl) ex (by omega) (by decide) rfl ?_
    refine v_if_eq (tgt := 32) d_Md_isFile_16 (by decide) rfl (fun c2 => ?_) (fun c2 => ?_)
    · refine v_iconst (v := 0) d_Md_isFile_32 (by decide) rfl ?_
      refine v_zret d_Md_isFile_33 rfl (Or.inl rfl) ?_
      exact ⟨congrArg (fun z => some (Value.int z)) (show _ = bI (decide (mdS I x = 2)) from by rw [ex, mdS_j hj, mst, if_pos c2]; rfl), rfl, rfl, rfl⟩
    · refine v_aload_n 0 d_Md_isFile_19 rfl rfl rfl ?_
      refine v_getr (r := 126) d_Md_isFile_20 fl_Md_13 (hS.o (by decide) rfl) rfl (hS.r (by decide) rfl) rfl ?_
      refine v_iload_n 1 d_Md_isFile_23 rfl rfl rfl ?_
      refine v_zald (j := j) d_Md_isFile_24 (hS.a (t := 33) (n := 16) (by decide) rfl) ex (by omega) (by decide) rfl ?_
      refine v_if_ne (tgt := 32) d_Md_isFile_25 (by decide) rfl (fun c3 => ?_) (fun c3 => ?_)
      · refine v_iconst (v := 0) d_Md_isFile_32 (by decide) rfl ?_
        refine v_zret d_Md_isFile_33 rfl (Or.inl rfl) ?_
        exact ⟨congrArg (fun z => some (Value.int z)) (show _ = bI (decide (mdS I x = 2)) from by rw [ex, mdS_j hj, mst, if_neg c2, if_neg c3]; rfl), rfl, rfl, rfl⟩
      · refine v_iconst (v := 1) d_Md_isFile_28 (by decide) rfl ?_
        refine v_goto (tgt := 33) d_Md_isFile_29 (by decide) ?_
        refine v_zret d_Md_isFile_33 rfl (Or.inr rfl) ?_
        exact ⟨congrArg (fun z => some (Value.int z)) (show _ = bI (decide (mdS I x = 2)) from by rw [ex, mdS_j hj, mst, if_neg c2, if_pos c3]; rfl), rfl, rfl, rfl⟩
/-- from a the way up comes to the root within k steps -/
def zro (P : Nat → Int32) : Nat → Nat → Prop
  | 0, a => a = 0
  | k + 1, a => a = 0 ∨ zro P k (P a).toNatClampNeg
theorem wup_0 (P : Nat → Int32) (f : Int32) (k : Nat) : wup P f k 0 = false := by
  cases k with
  | zero => rfl
  | succ k => rw [wup_s, if_pos rfl]
set_option maxHeartbeats 4000000 in
set_option maxRecDepth 100000 in
theorem lp_Md_within {C : CT} {l : Launch} {S : ShT} {d : Nat} (hC : OKC C l) (hS : SHP S) (hd : 0 ≤ d) {I : DI} {J : DJ} {y f : Int32} {w : Bool} (hP0 : I 127 0 = -1) (hP : ∀ i, 1 ≤ i → i < 16 → ∃ j, j < 16 ∧ I 127 i = nI j) : ∀ (n0 : Nat) (k : Nat) (x : Int32), ((x = -1 ∧ w = false ∧ 1 ≤ n0) ∨ (∃ b, x = nI b ∧ b < 16 ∧ zro (I 127) k b ∧ w = (decide (nI b = f) || wup (I 127) f k b) ∧ k + 2 ≤ n0)) → V C l k_Md_within (d, 0, 0) (PP (.int (bI w)) S I J) 20 [(3, .int x), (0, .ref 124), (1, .int y), (2, .int f)] [] S I J (0, 0) := by
  intro n0
  induction n0 with
  | zero =>
    intro k x hx
    rcases hx with ⟨_, _, h9⟩ | ⟨_, _, _, _, _, h9⟩ <;> omega
  | succ n0 ih =>
    intro k x hx
    refine v_iload_n 0 d_Md_within_20 rfl rfl rfl ?_
    refine v_if_lt (tgt := 39) d_Md_within_21 (by decide) rfl (fun c1 => ?_) (fun c1 => ?_)
    · refine v_iload_n 0 d_Md_within_39 rfl rfl rfl ?_
      refine v_if_lt (tgt := 47) d_Md_within_40 (by decide) rfl (fun c2 => ?_) (fun c2 => ?_)
      · refine v_iconst (v := 0) d_Md_within_47 (by decide) rfl ?_
        refine v_zret d_Md_within_48 rfl (Or.inl rfl) ?_
        refine ⟨congrArg (fun z => some (Value.int z)) (show 0 = bI w from ?_), rfl, rfl, rfl⟩
        rcases hx with ⟨_, hw, _⟩ | ⟨b9, h9, h8, _⟩
        · rw [hw]; rfl
        · exact absurd (by rw [h9] at c1; exact c1) (nI_pos (by omega))
      · refine v_iconst (v := 1) d_Md_within_43 (by decide) rfl ?_
        refine v_goto (tgt := 48) d_Md_within_44 (by decide) ?_
        refine v_zret d_Md_within_48 rfl (Or.inr rfl) ?_
        exact absurd c1 c2
    · have hb : ∃ b : Nat, x = nI b ∧ b < 16 := by rcases hx with h9 | h9; exact absurd h9.1 (fun h8 => c1 (by rw [h8]; decide)); obtain ⟨b, q1, q2, _⟩ := h9; exact ⟨b, q1, q2⟩
      obtain ⟨b, ex, hb16⟩ := hb
      refine v_iload_n 0 d_Md_within_24 rfl rfl rfl ?_
      refine v_iload_n 3 d_Md_within_25 rfl rfl rfl ?_
      refine v_icmp_eq (tgt := 39) d_Md_within_26 (by decide) rfl (fun c3 => ?_) (fun c3 => ?_)
      · refine v_iload_n 0 d_Md_within_39 rfl rfl rfl ?_
        refine v_if_lt (tgt := 47) d_Md_within_40 (by decide) rfl (fun c4 => ?_) (fun c4 => ?_)
        · refine v_iconst (v := 0) d_Md_within_47 (by decide) rfl ?_
          refine v_zret d_Md_within_48 rfl (Or.inl rfl) ?_
          exact absurd c4 c1
        · refine v_iconst (v := 1) d_Md_within_43 (by decide) rfl ?_
          refine v_goto (tgt := 48) d_Md_within_44 (by decide) ?_
          refine v_zret d_Md_within_48 rfl (Or.inr rfl) ?_
          refine ⟨congrArg (fun z => some (Value.int z)) (show 1 = bI w from ?_), rfl, rfl, rfl⟩
          rcases hx with ⟨h9, _⟩ | ⟨b9, h9, _, _, hw, _⟩
          · exact absurd (by rw [h9]; decide) c4
          · rw [hw, decide_eq_true (by rw [← h9]; exact c3)]; rfl
      · refine v_aload_n 1 d_Md_within_29 rfl rfl rfl ?_
        refine v_getr (r := 127) d_Md_within_30 fl_Md_16 (hS.o (by decide) rfl) rfl (hS.r (by decide) rfl) rfl ?_
        refine v_iload_n 0 d_Md_within_33 rfl rfl rfl ?_
        refine v_iald (j := b) d_Md_within_34 (hS.a (t := 32) (n := 16) (by decide) rfl) ex (by omega) (by decide) rfl ?_
        refine v_istore_n (L' := [(3, .int (I 127 b)), (0, .ref 124), (1, .int y), (2, .int f)]) d_Md_within_35 rfl (by decide) rfl rfl ?_
        refine v_goto (tgt := 20) d_Md_within_36 (by decide) ?_
        rcases hx with ⟨h9, _⟩ | ⟨b9, h9, h8, hz, hw, hkn⟩
        · exact absurd (by rw [h9]; decide) c1
        · have hbb : b9 = b := nI_inj (by omega) (by omega) (h9.symm.trans ex)
          subst hbb
          rw [decide_eq_false (by rw [← h9]; exact c3), Bool.false_or] at hw
          by_cases hb0 : b9 = 0
          · rw [hb0, wup_0] at hw
            exact ih 0 _ (Or.inl ⟨by rw [hb0]; exact hP0, hw, by omega⟩)
          · cases k with
            | zero => exact absurd hz hb0
            | succ k =>
              obtain ⟨j, hj, ej⟩ := hP b9 (by omega) h8
              rw [wup_s, if_neg hb0] at hw
              have hz2 : zro (I 127) k j := by rcases hz with h7 | h7; exact absurd h7 hb0; rw [ej, nI_clamp (by omega)] at h7; exact h7
              refine ih k _ (Or.inr ⟨j, ej, hj, hz2, ?_, by omega⟩)
              rw [hw, ej, nI_clamp (by omega)]; by_cases h7 : nI j = f
              · rw [if_pos h7, decide_eq_true h7]; rfl
              · rw [if_neg h7, decide_eq_false h7]; rfl
set_option maxHeartbeats 4000000 in
set_option maxRecDepth 100000 in
theorem c_Md_within {C : CT} {l : Launch} {S : ShT} {I : DI} {J : DJ} {d : Nat} (hC : OKC C l) (hS : SHP S) {j : Nat} {f : Int32} (hj : j < 16) (hP0 : I 127 0 = -1) (hP : ∀ i, 1 ≤ i → i < 16 → ∃ j, j < 16 ∧ I 127 i = nI j) (hz : ¬ I 125 j = 0 → zro (I 127) 16 j) (hd : 0 ≤ d) : Sp C l k_Md_within y_Md_within (d, 0, 0) [.ref 124, .int (nI j), .int f] S I J (PP (.int (bI (!decide (I 125 j = 0) && wup (I 127) f 16 j))) S I J) := by
  refine Sp.of hC cd_Md_within (Nat.le_of_ble_eq_true rfl) ?_
  show V C l k_Md_within (d, 0, 0) _ 0 [(0, .ref 124), (1, .int (nI j)), (2, .int f)] [] S I J (0, 0)
  refine v_aload_n 0 d_Md_within_0 rfl rfl rfl ?_
  refine v_getr (r := 125) d_Md_within_1 fl_Md_7 (hS.o (by decide) rfl) rfl (hS.r (by decide) rfl) rfl ?_
  refine v_iload_n 1 d_Md_within_4 rfl rfl rfl ?_
  refine v_zald (j := j) d_Md_within_5 (hS.a (t := 33) (n := 16) (by decide) rfl) rfl (by omega) (by decide) rfl ?_
  refine v_if_eq (tgt := 18) d_Md_within_6 (by decide) rfl (fun c1 => ?_) (fun c1 => ?_)
  · refine v_iconst (v := (-1)) d_Md_within_18 (by decide) rfl ?_
    refine v_istore_n (L' := [(3, .int (-1)), (0, .ref 124), (1, .int (nI j)), (2, .int f)]) d_Md_within_19 rfl (by decide) rfl rfl ?_
    rw [show (!decide (I 125 j = 0) && wup (I 127) f 16 j) = false by rw [decide_eq_true c1]; rfl]
    exact lp_Md_within hC hS hd hP0 hP 1 0 _ (Or.inl ⟨rfl, rfl, by omega⟩)
  · refine v_aload_n 0 d_Md_within_9 rfl rfl rfl ?_
    refine v_getr (r := 127) d_Md_within_10 fl_Md_16 (hS.o (by decide) rfl) rfl (hS.r (by decide) rfl) rfl ?_
    refine v_iload_n 1 d_Md_within_13 rfl rfl rfl ?_
    refine v_iald (j := j) d_Md_within_14 (hS.a (t := 32) (n := 16) (by decide) rfl) rfl (by omega) (by decide) rfl ?_
    refine v_goto (tgt := 19) d_Md_within_15 (by decide) ?_
    refine v_istore_n (L' := [(3, .int (I 127 j)), (0, .ref 124), (1, .int (nI j)), (2, .int f)]) d_Md_within_19 rfl (by decide) rfl rfl ?_
    rw [show (!decide (I 125 j = 0) && wup (I 127) f 16 j) = wup (I 127) f 16 j by rw [decide_eq_false c1]; rfl]
    have hz2 := hz c1
    by_cases hj0 : j = 0
    · exact lp_Md_within hC hS hd hP0 hP 1 0 _ (Or.inl ⟨by rw [hj0]; exact hP0, by rw [hj0, wup_0], by omega⟩)
    · obtain ⟨b, hb, eb⟩ := hP j (by omega) hj
      refine lp_Md_within hC hS hd hP0 hP 17 15 _ (Or.inr ⟨b, eb, hb, ?_, ?_, by omega⟩)
      · rcases hz2 with h9 | h9; exact absurd h9 hj0; rw [eb, nI_clamp (by omega)] at h9; exact h9
      · rw [wup_s, if_neg hj0, eb, nI_clamp (by omega)]; by_cases h7 : nI b = f
        · rw [if_pos h7, decide_eq_true h7]; rfl
        · rw [if_neg h7, decide_eq_false h7]; rfl
def tgM (a k : Int32) : Int32 := if a = 1 then (if k = 2 then 1 else 0) else if a = 2 then k else 2
set_option maxHeartbeats 4000000 in
set_option maxRecDepth 100000 in
theorem c_Md_together {C : CT} {l : Launch} {S : ShT} {I : DI} {J : DJ} {d : Nat} (hC : OKC C l) (a k : Int32) (hd : 0 ≤ d) : Sp C l k_Md_together y_Md_together (d, 0, 0) [.int a, .int k] S I J (PP (.int (tgM a k)) S I J) := by
  refine Sp.of hC cd_Md_together (Nat.le_of_ble_eq_true rfl) ?_
  show V C l k_Md_together (d, 0, 0) _ 0 [(0, .int a), (1, .int k)] [] S I J (0, 0)
  refine v_iload_n 0 d_Md_together_0 rfl rfl rfl ?_
  refine v_iconst (v := 1) d_Md_together_1 (by decide) rfl ?_
  refine v_icmp_ne (tgt := 16) d_Md_together_2 (by decide) rfl (fun c1 => ?_) (fun c1 => ?_)
  · refine v_iload_n 0 d_Md_together_16 rfl rfl rfl ?_
    refine v_iconst (v := 2) d_Md_together_17 (by decide) rfl ?_
    refine v_icmp_ne (tgt := 23) d_Md_together_18 (by decide) rfl (fun c2 => ?_) (fun c2 => ?_)
    · refine v_iconst (v := 2) d_Md_together_23 (by decide) rfl ?_
      refine v_iret d_Md_together_24 rfl ?_
      exact ⟨congrArg (fun z => some (Value.int z)) (show _ = tgM a k from by unfold tgM; rw [if_neg c1, if_neg c2]), rfl, rfl, rfl⟩
    · refine v_iload_n 1 d_Md_together_21 rfl rfl rfl ?_
      refine v_iret d_Md_together_22 rfl ?_
      exact ⟨congrArg (fun z => some (Value.int z)) (show _ = tgM a k from by unfold tgM; rw [if_neg c1, if_pos c2]), rfl, rfl, rfl⟩
  · refine v_iload_n 1 d_Md_together_5 rfl rfl rfl ?_
    refine v_iconst (v := 2) d_Md_together_6 (by decide) rfl ?_
    refine v_icmp_ne (tgt := 14) d_Md_together_7 (by decide) rfl (fun c3 => ?_) (fun c3 => ?_)
    · refine v_iconst (v := 0) d_Md_together_14 (by decide) rfl ?_
      refine v_iret d_Md_together_15 rfl ?_
      exact ⟨congrArg (fun z => some (Value.int z)) (show _ = tgM a k from by unfold tgM; rw [if_pos c1, if_neg c3]), rfl, rfl, rfl⟩
    · refine v_iconst (v := 1) d_Md_together_10 (by decide) rfl ?_
      refine v_goto (tgt := 15) d_Md_together_11 (by decide) ?_
      refine v_iret d_Md_together_15 rfl ?_
      exact ⟨congrArg (fun z => some (Value.int z)) (show _ = tgM a k from by unfold tgM; rw [if_pos c1, if_pos c3]), rfl, rfl, rfl⟩
/-- a letter made small; 0 for what is none */ -/
def ltr (x : Int32) : Int32 := if (!decide (x < 97) && !decide (122 < x)) then x else if (!decide (x < 65) && !decide (90 < x)) then x + 32 else 0
set_option maxHeartbeats 4000000 in
set_option maxRecDepth 100000 in
theorem c_Md_letter {C : CT} {l : Launch} {S : ShT} {I : DI} {J : DJ} {d : Nat} (hC : OKC C l) (x : Int32) (hd : 0 ≤ d) : Sp C l k_Md_letter y_Md_letter (d, 0, 0) [.int x] S I J (PP (.int (ltr x)) S I J) := by
  refine Sp.of hC cd_Md_letter (Nat.le_of_ble_eq_true rfl) ?_
  show V C l k_Md_letter (d, 0, 0) _ 0 [(0, .int x)] [] S I J (0, 0)
  refine v_iload_n 0 d_Md_letter_0 rfl rfl rfl ?_
  refine v_bipush (v := 97) d_Md_letter_1 (by decide) rfl ?_
  refine v_icmp_lt (tgt := 14) d_Md_letter_3 (by decide) rfl (fun c1 => ?_) (fun c1 => ?_)
  · refine v_iload_n 0 d_Md_letter_14 rfl rfl rfl ?_
    refine v_bipush (v := 65) d_Md_letter_15 (by decide) rfl ?_
    refine v_icmp_lt (tgt := 33) d_Md_letter_17 (by decide) rfl (fun c2 => ?_) (fun c2 => ?_)
    · refine v_iconst (v := 0) d_Md_letter_33 (by decide) rfl ?_
      refine v_iret d_Md_letter_34 rfl ?_
      exact ⟨congrArg (fun z => some (Value.int z)) (show _ = ltr x from by unfold ltr; rw [if_neg (by rw [decide_eq_true c1]; simp), if_neg (by rw [decide_eq_true c2]; simp)]), rfl, rfl, rfl⟩
    · refine v_iload_n 0 d_Md_letter_20 rfl rfl rfl ?_
      refine v_bipush (v := 90) d_Md_letter_21 (by decide) rfl ?_
      refine v_icmp_gt (tgt := 33) d_Md_letter_23 (by decide) rfl (fun c3 => ?_) (fun c3 => ?_)
      · refine v_iconst (v := 0) d_Md_letter_33 (by decide) rfl ?_
        refine v_iret d_Md_letter_34 rfl ?_
        exact ⟨congrArg (fun z => some (Value.int z)) (show _ = ltr x from by unfold ltr; rw [if_neg (by rw [decide_eq_true c1]; simp), if_neg (by rw [decide_eq_true c3]; simp)]), rfl, rfl, rfl⟩
      · refine v_iload_n 0 d_Md_letter_26 rfl rfl rfl ?_
        refine v_bipush (v := 32) d_Md_letter_27 (by decide) rfl ?_
        refine v_iadd d_Md_letter_29 rfl ?_
        refine v_nmi (fun z4 ez4 => ?_)
        refine v_goto (tgt := 34) d_Md_letter_30 (by decide) ?_
        refine v_iret d_Md_letter_34 rfl ?_
        exact ⟨congrArg (fun z => some (Value.int z)) (show _ = ltr x from by unfold ltr; rw [if_neg (by rw [decide_eq_true c1]; simp), decide_eq_false c2, decide_eq_false c3, ez4]; rfl), rfl, rfl, rfl⟩
  · refine v_iload_n 0 d_Md_letter_6 rfl rfl rfl ?_
    refine v_bipush (v := 122) d_Md_letter_7 (by decide) rfl ?_
    refine v_icmp_gt (tgt := 14) d_Md_letter_9 (by decide) rfl (fun c5 => ?_) (fun c5 => ?_)
    · refine v_iload_n 0 d_Md_letter_14 rfl rfl rfl ?_
      refine v_bipush (v := 65) d_Md_letter_15 (by decide) rfl ?_
      refine v_icmp_lt (tgt := 33) d_Md_letter_17 (by decide) rfl (fun c6 => ?_) (fun c6 => ?_)
      · refine v_iconst (v := 0) d_Md_letter_33 (by decide) rfl ?_
        refine v_iret d_Md_letter_34 rfl ?_
        exact ⟨congrArg (fun z => some (Value.int z)) (show _ = ltr x from by unfold ltr; rw [if_neg (by rw [decide_eq_true c5]; simp), if_neg (by rw [decide_eq_true c6]; simp)]), rfl, rfl, rfl⟩
      · refine v_iload_n 0 d_Md_letter_20 rfl rfl rfl ?_
        refine v_bipush (v := 90) d_Md_letter_21 (by decide) rfl ?_
        refine v_icmp_gt (tgt := 33) d_Md_letter_23 (by decide) rfl (fun c7 => ?_) (fun c7 => ?_)
        · refine v_iconst (v := 0) d_Md_letter_33 (by decide) rfl ?_
          refine v_iret d_Md_letter_34 rfl ?_
          exact ⟨congrArg (fun z => some (Value.int z)) (show _ = ltr x from by unfold ltr; rw [if_neg (by rw [decide_eq_true c5]; simp), if_neg (by rw [decide_eq_true c7]; simp)]), rfl, rfl, rfl⟩
        · refine v_iload_n 0 d_Md_letter_26 rfl rfl rfl ?_
          refine v_bipush (v := 32) d_Md_letter_27 (by decide) rfl ?_
          refine v_iadd d_Md_letter_29 rfl ?_
          refine v_nmi (fun z8 ez8 => ?_)
          refine v_goto (tgt := 34) d_Md_letter_30 (by decide) ?_
          refine v_iret d_Md_letter_34 rfl ?_
          exact ⟨congrArg (fun z => some (Value.int z)) (show _ = ltr x from by unfold ltr; rw [if_neg (by rw [decide_eq_true c5]; simp), decide_eq_false c6, decide_eq_false c7, ez8]; rfl), rfl, rfl, rfl⟩
    · refine v_iload_n 0 d_Md_letter_12 rfl rfl rfl ?_
      refine v_iret d_Md_letter_13 rfl ?_
      exact ⟨congrArg (fun z => some (Value.int z)) (show _ = ltr x from by unfold ltr; rw [decide_eq_false c1, decide_eq_false c5]; rfl), rfl, rfl, rfl⟩
def DqM (I0 : DI) (p m : Nat) (I : DI) : Prop := I 124 9 = nI m ∧ (∀ j, j ≠ 9 → I 124 j = I0 124 j) ∧ I 131 = shf (I0 131) p m ∧ I 132 = shf (I0 132) p m ∧ ∀ b, b ≠ 124 → b ≠ 131 → b ≠ 132 → I b = I0 b
set_option maxHeartbeats 4000000 in
set_option maxRecDepth 100000 in
theorem lp_Md_drop {C : CT} {l : Launch} {S : ShT} {d : Nat} (hC : OKC C l) (hS : SHP S) (hd : 0 ≤ d) {I0 : DI} {J : DJ} {p m : Nat} (hm : m < 8) : ∀ (n0 : Nat) (i : Nat) (I : DI) (x : Int32), x = nI i → p ≤ i → i ≤ m → m < i + n0 → I 124 9 = nI m → (∀ j, j ≠ 9 → I 124 j = I0 124 j) → I 131 = shf (I0 131) p i → I 132 = shf (I0 132) p i → (∀ b, b ≠ 124 → b ≠ 131 → b ≠ 132 → I b = I0 b) → V C l k_Md_drop (d, 0, 0) (PU S J (DqM I0 p m)) 12 [(2, .int x), (0, .ref 124), (1, .int (nI p))] [] S I J (0, 0) := by
  intro n0
  induction n0 with
  | zero =>
    intro i I x ex hpi him hf h2 h3 h4 h5 h6
    omega
  | succ n0 ih =>
    intro i I x ex hpi him hf h2 h3 h4 h5 h6
    refine v_iload_n 0 d_Md_drop_12 rfl rfl rfl ?_
    refine v_aload_n 1 d_Md_drop_13 rfl rfl rfl ?_
    refine v_geti d_Md_drop_14 fl_Md_92 (hS.o (by decide) rfl) rfl rfl ?_
    refine v_icmp_ge (tgt := 54) d_Md_drop_17 (by decide) rfl (fun c1 => ?_) (fun c1 => ?_)
    · refine v_vret d_Md_drop_54 rfl ?_
      have him2 : i = m := by rcases Nat.lt_or_ge i m with h9 | h9; exact absurd c1 (by rw [h2, ex]; exact nI_ge h9 (by omega)); omega
      subst him2
      exact ⟨rfl, rfl, rfl, h2, h3, h4, h5, h6⟩
    · have hlt : i < m := by rcases Nat.lt_or_ge i m with h9 | h9; exact h9; exact absurd (by rw [h2, ex]; exact nI_le h9 (by omega)) c1
      refine v_aload_n 1 d_Md_drop_20 rfl rfl rfl ?_
      refine v_getr (r := 131) d_Md_drop_21 fl_Md_29 (hS.o (by decide) rfl) rfl (hS.r (by decide) rfl) rfl ?_
      refine v_iload_n 0 d_Md_drop_24 rfl rfl rfl ?_
      refine v_aload_n 1 d_Md_drop_25 rfl rfl rfl ?_
      refine v_getr (r := 131) d_Md_drop_26 fl_Md_29 (hS.o (by decide) rfl) rfl (hS.r (by decide) rfl) rfl ?_
      refine v_iload_n 0 d_Md_drop_29 rfl rfl rfl ?_
      refine v_iconst (v := 1) d_Md_drop_30 (by decide) rfl ?_
      refine v_iadd d_Md_drop_31 rfl ?_
      refine v_nmi (fun z2 ez2 => ?_)
      have nz2 : z2 = nI (i + 1) := by rw [ez2, show x = nI i from ex, show 1 = nI 1 from rfl]; exact nI_add _ _
      refine v_iald (j := (i + 1)) d_Md_drop_32 (hS.a (t := 32) (n := 8) (by decide) rfl) nz2 (by omega) (by decide) rfl ?_
      refine v_iast (j := i) d_Md_drop_33 (hS.a (t := 32) (n := 8) (by decide) rfl) ex (by omega) (by decide) rfl ?_
      generalize hI3 : u2 I 131 i (I 131 (i + 1)) = I3
      refine v_aload_n 1 d_Md_drop_34 rfl rfl rfl ?_
      refine v_getr (r := 132) d_Md_drop_35 fl_Md_32 (hS.o (by decide) rfl) rfl (hS.r (by decide) rfl) rfl ?_
      refine v_iload_n 0 d_Md_drop_38 rfl rfl rfl ?_
      refine v_aload_n 1 d_Md_drop_39 rfl rfl rfl ?_
      refine v_getr (r := 132) d_Md_drop_40 fl_Md_32 (hS.o (by decide) rfl) rfl (hS.r (by decide) rfl) rfl ?_
      refine v_iload_n 0 d_Md_drop_43 rfl rfl rfl ?_
      refine v_iconst (v := 1) d_Md_drop_44 (by decide) rfl ?_
      refine v_iadd d_Md_drop_45 rfl ?_
      refine v_nmi (fun z4 ez4 => ?_)
      have nz4 : z4 = nI (i + 1) := by rw [ez4, show x = nI i from ex, show 1 = nI 1 from rfl]; exact nI_add _ _
      refine v_iald (j := (i + 1)) d_Md_drop_46 (hS.a (t := 32) (n := 8) (by decide) rfl) nz4 (by omega) (by decide) rfl ?_
      refine v_iast (j := i) d_Md_drop_47 (hS.a (t := 32) (n := 8) (by decide) rfl) ex (by omega) (by decide) rfl ?_
      generalize hI5 : u2 I3 132 i (I3 132 (i + 1)) = I5
      obtain ⟨x6, ex6⟩ : ∃ y : Int32, y = x + 1 := ⟨_, rfl⟩
      have nx6 : x6 = nI (i + 1) := by rw [ex6, show x = nI i from ex]; exact nI_1 _
      refine v_iinc (n := 0) (v := x6) (L' := [(2, .int x6), (0, .ref 124), (1, .int (nI p))]) d_Md_drop_48 rfl (by rw [ex6]; rfl) (by decide) rfl rfl ?_
      refine v_goto (tgt := 12) d_Md_drop_51 (by decide) ?_
      refine ih _ I5 _ nx6 (by omega) (by omega) (by omega) ?_ ?_ ?_ ?_ ?_
      · subst_vars; rw [u2_n (by omega), u2_n (by omega)]; exact h2
      · intro j hj; subst_vars; rw [u2_n (by omega), u2_n (by omega)]; exact h3 j hj
      · subst_vars; rw [u2_o (by decide), u2_row, shf_s hpi, h4]; funext j; by_cases hj : j = i
        · rw [if_pos hj, if_pos hj]; unfold shf; rw [if_neg (by omega)]
        · rw [if_neg hj, if_neg hj]
      · subst_vars; rw [u2_row, shf_s hpi, u2_o (by decide), h5]; funext j; by_cases hj : j = i
        · rw [if_pos hj, if_pos hj]; unfold shf; rw [if_neg (by omega)]
        · rw [if_neg hj, if_neg hj]
      · intro b b1 b2 b3; subst_vars; rw [u2_o b3, u2_o b2]; exact h6 b b1 b2 b3
set_option maxHeartbeats 4000000 in
set_option maxRecDepth 100000 in
theorem c_Md_drop {C : CT} {l : Launch} {S : ShT} {I : DI} {J : DJ} {d : Nat} (hC : OKC C l) (hS : SHP S) {p m : Nat} (hm : m < 8) (hp : p ≤ m) (h2 : I 124 9 = nI (m + 1)) (hd : 0 ≤ d) : Sp C l k_Md_drop y_Md_drop (d, 0, 0) [.ref 124, .int (nI p)] S I J (PU S J (DqM I p m)) := by
  refine Sp.of hC cd_Md_drop (Nat.le_of_ble_eq_true rfl) ?_
  show V C l k_Md_drop (d, 0, 0) _ 0 [(0, .ref 124), (1, .int (nI p))] [] S I J (0, 0)
  refine v_aload_n 0 d_Md_drop_0 rfl rfl rfl ?_
  refine v_dup d_Md_drop_1 rfl rfl ?_
  refine v_geti d_Md_drop_2 fl_Md_92 (hS.o (by decide) rfl) rfl rfl ?_
  refine v_iconst (v := 1) d_Md_drop_5 (by decide) rfl ?_
  refine v_isub d_Md_drop_6 rfl ?_
  refine v_nmi (fun z1 ez1 => ?_)
  have nz1 : z1 = nI ((m + 1) - 1) := by rw [ez1, show I 124 9 = nI (m + 1) from h2, show 1 = nI 1 from rfl]; exact pk_sub (by omega)
  refine v_puti d_Md_drop_7 fl_Md_92 (hS.o (by decide) rfl) rfl rfl rfl ?_
  generalize hI2 : u2 I 124 9 z1 = I2
  refine v_iload_n 1 d_Md_drop_10 rfl rfl rfl ?_
  refine v_istore_n (L' := [(2, .int (nI p)), (0, .ref 124), (1, .int (nI p))]) d_Md_drop_11 rfl (by decide) rfl rfl ?_
  exact lp_Md_drop hC hS hd hm (m + 1) p I2 _ rfl (Nat.le_refl _) hp (by omega) (by rw [← hI2, u2_s, nz1]; rfl) (fun j hj => by rw [← hI2, u2_n (Or.inr hj)]) (by rw [← hI2, u2_o (by decide), shf_0]) (by rw [← hI2, u2_o (by decide), shf_0]) (fun b b1 b2 b3 => by rw [← hI2, u2_o b1])
