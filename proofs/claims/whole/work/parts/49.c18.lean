/-! ===== FileIndexer's inner methods ===== -/
theorem TQ.le {l : Int32} {n : Nat} {f g : Nat → Int32} {x k l' : Int32} {n' : Nat} {f' g' : Nat → Int32} (h : TQ l n f g x k l' n' f' g') (hn : n ≤ 8) : n' ≤ 8 := by
  obtain ⟨h1, h2, h3, h4, h5⟩ := h
  by_cases hl : l = 0
  · by_cases hp : plc g x 0 n < n
    · by_cases hk : f (plc g x 0 n) = 1 ∧ k = 3
      · have := (h2 hl hp hk).2.1; omega
      · have := (h3 hl hp hk).2.1; omega
    · by_cases h8 : n < 8
      · have := (h4 hl hp h8).2.1; omega
      · have := (h5 hl hp h8).2; omega
  · have := (h1 hl).2.1; omega
/-- an event is told -/
def Tl (I : DI) (x k : Int32) (I' : DI) : Prop := ∃ m m', I 22 2 = nI m ∧ m ≤ 8 ∧ I' 22 2 = nI m' ∧ m' ≤ 8 ∧ TQ (I 22 3) m (I 23) (I 24) x k (I' 22 3) m' (I' 23) (I' 24) ∧ ∀ b, b ≠ 22 → b ≠ 23 → b ≠ 24 → I' b = I b
theorem Sp.mono {C : CT} {l : Launch} {K : KT} {y : MethodName} {R : RT} {as : List Value} {S : ShT} {I : DI} {J : DJ} {Po Po' : PoT} (h : Sp C l K y R as S I J Po) (hp : ∀ r S' I' J', Po r S' I' J' → Po' r S' I' J') : Sp C l K y R as S I J Po' :=
  MetFree.mono h (fun _ _ q => q) (fun _ _ _ _ _ q => q) (fun _ _ _ _ _ q => by
    obtain ⟨⟨r, S', I', J', q1, q2⟩, q3⟩ := q
    exact ⟨⟨r, S', I', J', hp _ _ _ _ q1, q2⟩, q3⟩)
theorem ct_tell {C : CT} {l : Launch} {S : ShT} {I : DI} {J : DJ} {d : Nat} (hC : OKC C l) (hS : SHP S) {m : Nat} (hm : m ≤ 8) (h2 : I 22 2 = nI m) (x k : Int32) (hd : 2 ≤ d) : Sp C l k_Qu_tell y_Qu_tell (d, 0, 0) [.ref 22, .int x, .int k] S I J (PU S J (Tl I x k)) :=
  Sp.mono (c_Qu_tell hC hS hm h2 x k hd) (fun r S' I' J' h => by
    cases r with
    | inr c => exact False.elim h
    | inl v => obtain ⟨q1, q2, q3, m', q4, q5, q6⟩ := h; exact ⟨q1, q2, q3, m, m', h2, hm, q4, q5.le hm, q5, q6⟩)
/-- the file j, of m characters, is read -/
def Rd (I : DI) (J : DJ) (j : Nat) (I' : DI) (J' : DJ) : Prop := ∃ m, I 21 j = nI m ∧ m ≤ 60 ∧ ∃ I1, TkI I J j m (tiE (I (5 + j)) m) m I1 J' ∧ I' = u2 (u2 I1 27 j 1) 25 2 (I 25 2 + 1)
set_option maxHeartbeats 4000000 in
set_option maxRecDepth 100000 in
theorem c_Fi_readFile {C : CT} {l : Launch} {S : ShT} {I : DI} {J : DJ} {d : Nat} (hC : OKC C l) (hS : SHP S) {j m : Nat} (hj : j < 16) (hl : I 21 j = nI m) (hm6 : m ≤ 60) (hd : 4 ≤ d) : Sp C l k_Fi_readFile y_Fi_readFile (d, 0, 0) [.ref 0, .int (nI j)] S I J (PW S (Rd I J j)) := by
  refine Sp.of hC cd_Fi_readFile (Nat.le_of_ble_eq_true rfl) ?_
  show V C l k_Fi_readFile (d, 0, 0) _ 0 [(0, .ref 0), (1, .int (nI j))] [] S I J (0, 0)
  refine v_aload_n 0 d_Fi_readFile_0 rfl rfl rfl ?_
  refine v_getr (r := 25) d_Fi_readFile_1 fl_Fi_26 (hS.o (by decide) rfl) rfl (hS.r (by decide) rfl) rfl ?_
  refine v_iload_n 1 d_Fi_readFile_4 rfl rfl rfl ?_
  refine v_aload_n 0 d_Fi_readFile_5 rfl rfl rfl ?_
  refine v_getr (r := 1) d_Fi_readFile_6 fl_Fi_10 (hS.o (by decide) rfl) rfl (hS.r (by decide) rfl) rfl ?_
  refine v_iload_n 1 d_Fi_readFile_9 rfl rfl rfl ?_
  refine v_cVp (as := [.int (nI j)]) d_Fi_readFile_10 cs_Fi_197 (c_Tr_contentOf hC hS (d := d - 1) (j := j) (by omega) (by omega)) (hS.o (by decide) rfl) (by decide) rfl rfl rfl (by simp [Value.category]) (by omega) rfl ?_
  refine v_aload_n 0 d_Fi_readFile_13 rfl rfl rfl ?_
  refine v_getr (r := 1) d_Fi_readFile_14 fl_Fi_10 (hS.o (by decide) rfl) rfl (hS.r (by decide) rfl) rfl ?_
  refine v_iload_n 1 d_Fi_readFile_17 rfl rfl rfl ?_
  refine v_cVp (as := [.int (nI j)]) d_Fi_readFile_18 cs_Fi_85 (c_Tr_lengthOf hC hS (d := d - 1) (j := j) (by omega) (by omega)) (hS.o (by decide) rfl) (by decide) rfl rfl rfl (by simp [Value.category]) (by omega) rfl ?_
  refine v_cVw (as := [.int (nI j), .ref (5 + j), .int (I 21 j)]) d_Fi_readFile_21 cs_Fi_201 (by rw [hl]; exact c_Ix_read hC hS (d := d - 1) (j := j) hj hm6 (by omega)) (hS.o (by decide) rfl) (by decide) rfl rfl rfl (by decide) (by omega) rfl (fun I8 J8 hq => ?_)
  refine v_vret d_Fi_readFile_24 rfl ?_
  exact ⟨rfl, rfl, m, hl, hm6, hq⟩
def Fl (I : DI) (J : DJ) (k : Int32) (j : Nat) (I' : DI) (J' : DJ) : Prop := (k = 3 ∧ J' = J ∧ I' = u2 I 27 j 0) ∨ (¬ k = 3 ∧ Rd I J j I' J')
set_option maxHeartbeats 4000000 in
set_option maxRecDepth 100000 in
theorem c_Fi_follow {C : CT} {l : Launch} {S : ShT} {I : DI} {J : DJ} {d : Nat} (hC : OKC C l) (hS : SHP S) {j m : Nat} {k y : Int32} (hj : j < 16) (ey : y = nI j) (hl : I 21 j = nI m) (hm6 : m ≤ 60) (hd : 5 ≤ d) : Sp C l k_Fi_follow y_Fi_follow (d, 0, 0) [.ref 0, .int k, .int y] S I J (PW S (Fl I J k j)) := by
  refine Sp.of hC cd_Fi_follow (Nat.le_of_ble_eq_true rfl) ?_
  show V C l k_Fi_follow (d, 0, 0) _ 0 [(0, .ref 0), (1, .int k), (2, .int y)] [] S I J (0, 0)
  refine v_iload_n 1 d_Fi_follow_0 rfl rfl rfl ?_
  refine v_iconst (v := 3) d_Fi_follow_1 (by decide) rfl ?_
  refine v_icmp_ne (tgt := 16) d_Fi_follow_2 (by decide) rfl (fun c1 => ?_) (fun c1 => ?_)
  · refine v_aload_n 0 d_Fi_follow_16 rfl rfl rfl ?_
    refine v_iload_n 2 d_Fi_follow_17 rfl rfl rfl ?_
    refine v_cVw (as := [.int y]) d_Fi_follow_18 cs_Fi_139 (by rw [ey]; exact c_Fi_readFile hC hS (d := d - 1) (j := j) hj hl hm6 (by omega)) (hS.o (by decide) rfl) (by decide) rfl rfl rfl (by decide) (by omega) rfl (fun I8 J8 hq => ?_)
    refine v_vret d_Fi_follow_21 rfl ?_
    exact ⟨rfl, rfl, Or.inr ⟨c1, hq⟩⟩
  · refine v_aload_n 0 d_Fi_follow_5 rfl rfl rfl ?_
    refine v_getr (r := 25) d_Fi_follow_6 fl_Fi_26 (hS.o (by decide) rfl) rfl (hS.r (by decide) rfl) rfl ?_
    refine v_iload_n 2 d_Fi_follow_9 rfl rfl rfl ?_
    refine v_cVu (as := [.int y]) d_Fi_follow_10 cs_Fi_142 (by rw [ey]; exact c_Ix_forget hC hS (d := d - 1) (j := j) hj (by omega)) (hS.o (by decide) rfl) (by decide) rfl rfl rfl (by decide) (by omega) rfl (fun I9 hq => ?_)
    refine v_goto (tgt := 21) d_Fi_follow_13 (by decide) ?_
    refine v_vret d_Fi_follow_21 rfl ?_
    exact ⟨rfl, rfl, Or.inl ⟨c1, rfl, hq⟩⟩
def Rm (I : DI) (j : Nat) (I' : DI) : Prop := if I 2 j = 2 then Tl (u2 I 2 j 0) (nI j) 3 I' else I' = u2 I 2 j 0
set_option maxHeartbeats 4000000 in
set_option maxRecDepth 100000 in
theorem c_Fi_removeOne {C : CT} {l : Launch} {S : ShT} {I : DI} {J : DJ} {d : Nat} (hC : OKC C l) (hS : SHP S) {j m : Nat} {y : Int32} (hj : j < 16) (ey : y = nI j) (hm : m ≤ 8) (h2 : I 22 2 = nI m) (hd : 3 ≤ d) : Sp C l k_Fi_removeOne y_Fi_removeOne (d, 0, 0) [.ref 0, .int y] S I J (PU S J (Rm I j)) := by
  refine Sp.of hC cd_Fi_removeOne (Nat.le_of_ble_eq_true rfl) ?_
  show V C l k_Fi_removeOne (d, 0, 0) _ 0 [(0, .ref 0), (1, .int y)] [] S I J (0, 0)
  refine v_aload_n 0 d_Fi_removeOne_0 rfl rfl rfl ?_
  refine v_getr (r := 1) d_Fi_removeOne_1 fl_Fi_10 (hS.o (by decide) rfl) rfl (hS.r (by decide) rfl) rfl ?_
  refine v_iload_n 1 d_Fi_removeOne_4 rfl rfl rfl ?_
  refine v_cVp (as := [.int y]) d_Fi_removeOne_5 cs_Fi_75 (by rw [ey]; exact c_Tr_isFile hC hS (d := d - 1) (nI j) (by omega)) (hS.o (by decide) rfl) (by decide) rfl rfl rfl (by decide) (by omega) rfl ?_
  rw [ndS_j hj]
  refine v_istore_n (L' := [(2, .int (bI (decide (I 2 j = 2)))), (0, .ref 0), (1, .int y)]) d_Fi_removeOne_8 rfl (by decide) rfl rfl ?_
  refine v_aload_n 1 d_Fi_removeOne_9 rfl rfl rfl ?_
  refine v_getr (r := 1) d_Fi_removeOne_10 fl_Fi_10 (hS.o (by decide) rfl) rfl (hS.r (by decide) rfl) rfl ?_
  refine v_iload_n 2 d_Fi_removeOne_13 rfl rfl rfl ?_
  refine v_cVu (as := [.int y]) d_Fi_removeOne_14 cs_Fi_196 (by rw [ey]; exact c_Tr_drop hC hS (d := d - 1) (j := j) hj (by omega)) (hS.o (by decide) rfl) (by decide) rfl rfl rfl (by decide) (by omega) rfl (fun I1 h1 => ?_)
  refine v_iload_n 0 d_Fi_removeOne_17 rfl rfl rfl ?_
  refine v_if_eq (tgt := 30) d_Fi_removeOne_18 (by decide) rfl (fun c1 => ?_) (fun c1 => ?_)
  · refine v_vret d_Fi_removeOne_30 rfl ?_
    exact ⟨rfl, rfl, rfl, by unfold Rm; rw [if_neg (of_decide_eq_false (bI_f c1))]; exact h1⟩
  · refine v_aload_n 1 d_Fi_removeOne_21 rfl rfl rfl ?_
    refine v_getr (r := 22) d_Fi_removeOne_22 fl_Fi_19 (hS.o (by decide) rfl) rfl (hS.r (by decide) rfl) rfl ?_
    refine v_iload_n 2 d_Fi_removeOne_25 rfl rfl rfl ?_
    refine v_iconst (v := 3) d_Fi_removeOne_26 (by decide) rfl ?_
    refine v_cVu (as := [.int y, .int 3]) d_Fi_removeOne_27 cs_Fi_71 (by rw [ey]; exact ct_tell hC hS (d := d - 1) hm (by rw [h1, u2_o (by decide)]; exact h2) (nI j) 3 (by omega)) (hS.o (by decide) rfl) (by decide) rfl rfl rfl (by decide) (by omega) rfl (fun I2 ht => ?_)
    refine v_vret d_Fi_removeOne_30 rfl ?_
    exact ⟨rfl, rfl, rfl, by unfold Rm; rw [if_pos (of_decide_eq_true (bI_t c1)), ← h1]; exact ht⟩
/-- the file x is searched in the folder f -/
def isSr (I : DI) (x f : Int32) : Bool := decide (f = 0) || (!decide (ndS I x = 0) && wup (I 3) f 16 x.toNatClampNeg)
set_option maxHeartbeats 4000000 in
set_option maxRecDepth 100000 in
theorem c_Fi_isSearched {C : CT} {l : Launch} {S : ShT} {I : DI} {J : DJ} {d : Nat} (hC : OKC C l) (hS : SHP S) (hP : ∀ i, i < 16 → ∃ j, j < 16 ∧ I 3 i = nI j) (x f : Int32) (hd : 3 ≤ d) : Sp C l k_Fi_isSearched y_Fi_isSearched (d, 0, 0) [.ref 0, .int x, .int f] S I J (PP (.int (bI (isSr I x f))) S I J) := by
  refine Sp.of hC cd_Fi_isSearched (Nat.le_of_ble_eq_true rfl) ?_
  show V C l k_Fi_isSearched (d, 0, 0) _ 0 [(0, .ref 0), (1, .int x), (2, .int f)] [] S I J (0, 0)
  refine v_iload_n 2 d_Fi_isSearched_0 rfl rfl rfl ?_
  refine v_if_eq (tgt := 16) d_Fi_isSearched_1 (by decide) rfl (fun c1 => ?_) (fun c1 => ?_)
  · refine v_iconst (v := 1) d_Fi_isSearched_16 (by decide) rfl ?_
    refine v_goto (tgt := 21) d_Fi_isSearched_17 (by decide) ?_
    refine v_zret d_Fi_isSearched_21 rfl (Or.inr rfl) ?_
    exact ⟨congrArg (fun z => some (Value.int z)) (show _ = bI (isSr I x f) from by unfold isSr; rw [decide_eq_true c1]; rfl), rfl, rfl, rfl⟩
  · refine v_aload_n 0 d_Fi_isSearched_4 rfl rfl rfl ?_
    refine v_getr (r := 1) d_Fi_isSearched_5 fl_Fi_10 (hS.o (by decide) rfl) rfl (hS.r (by decide) rfl) rfl ?_
    refine v_iload_n 1 d_Fi_isSearched_8 rfl rfl rfl ?_
    refine v_iload_n 2 d_Fi_isSearched_9 rfl rfl rfl ?_
    refine v_cVp (as := [.int x, .int f]) d_Fi_isSearched_10 cs_Fi_99 (c_Tr_isWithin hC hS (d := d - 1) hP x f (by omega)) (hS.o (by decide) rfl) (by decide) rfl rfl rfl (by decide) (by omega) rfl ?_
    refine v_if_eq (tgt := 20) d_Fi_isSearched_13 (by decide) rfl (fun c2 => ?_) (fun c2 => ?_)
    · refine v_iconst (v := 0) d_Fi_isSearched_20 (by decide) rfl ?_
      refine v_zret d_Fi_isSearched_21 rfl (Or.inl rfl) ?_
      exact ⟨congrArg (fun z => some (Value.int z)) (show _ = bI (isSr I x f) from by unfold isSr; rw [bI_f c2, decide_eq_false c1]; rfl), rfl, rfl, rfl⟩
    · refine v_iconst (v := 1) d_Fi_isSearched_16 (by decide) rfl ?_
      refine v_goto (tgt := 21) d_Fi_isSearched_17 (by decide) ?_
      refine v_zret d_Fi_isSearched_21 rfl (Or.inr rfl) ?_
      exact ⟨congrArg (fun z => some (Value.int z)) (show _ = bI (isSr I x f) from by unfold isSr; rw [bI_t c2, Bool.or_true]; rfl), rfl, rfl, rfl⟩
/-- the file x of the score y is put among the q results -/
def Ra (I : DI) (q : Nat) (x y : Int32) (I' : DI) : Prop := I' 122 = ins (I 122) (pos (I 123) y q) q x ∧ I' 123 = ins (I 123) (pos (I 123) y q) q y ∧ I' 121 2 = nI (q + 1) ∧ ∀ b, b ≠ 121 → b ≠ 122 → b ≠ 123 → I' b = I b
def Rk1 (I : DI) (q : Nat) (x y : Int32) (I' : DI) : Prop := (y = -1 ∧ I' = I) ∨ (¬ y = -1 ∧ Ra I q x y I')
set_option maxHeartbeats 4000000 in
set_option maxRecDepth 100000 in
theorem c_Fi_rank {C : CT} {l : Launch} {S : ShT} {I : DI} {J : DJ} {d : Nat} (hC : OKC C l) (hS : SHP S) {j m k g q : Nat} {sz : Nat → Nat} {y : Int32} (hj : j < 16) (ey : y = nI j) (hm : m ≤ 30) (hk : k ≤ 21) (hg : g ≤ 100) (h3 : I 76 3 = nI k) (h4 : I 76 4 = nI g) (hn : I (28 + 3 * j) 2 = nI m) (hT : TmO I k sz) (hq15 : q < 16) (hq : I 121 2 = nI q) (hd : 5 ≤ d) : Sp C l k_Fi_rank y_Fi_rank (d, 0, 0) [.ref 0, .int y] S I J (PU S J (Rk1 I q y (sco I J j m k g sz))) := by
  refine Sp.of hC cd_Fi_rank (Nat.le_of_ble_eq_true rfl) ?_
  show V C l k_Fi_rank (d, 0, 0) _ 0 [(0, .ref 0), (1, .int y)] [] S I J (0, 0)
  refine v_aload_n 0 d_Fi_rank_0 rfl rfl rfl ?_
  refine v_getr (r := 76) d_Fi_rank_1 fl_Fi_33 (hS.o (by decide) rfl) rfl (hS.r (by decide) rfl) rfl ?_
  refine v_aload_n 0 d_Fi_rank_4 rfl rfl rfl ?_
  refine v_getr (r := 25) d_Fi_rank_5 fl_Fi_26 (hS.o (by decide) rfl) rfl (hS.r (by decide) rfl) rfl ?_
  refine v_iload_n 1 d_Fi_rank_8 rfl rfl rfl ?_
  refine v_cVp (as := [.int y]) d_Fi_rank_9 cs_Fi_179 (by rw [ey]; exact c_Ix_entryOf hC hS (d := d - 1) (j := j) hj (by omega)) (hS.o (by decide) rfl) (by decide) rfl rfl rfl (by simp [Value.category]) (by omega) rfl ?_
  refine v_cVp (as := [.ref (28 + 3 * j)]) d_Fi_rank_12 cs_Fi_205 (c_Qy_scoreOf hC hS (d := d - 1) hj hm hk hg h3 h4 hn hT (by omega)) (hS.o (by decide) rfl) (by decide) rfl rfl rfl (by decide) (by omega) rfl ?_
  refine v_istore_n (L' := [(2, .int (sco I J j m k g sz)), (0, .ref 0), (1, .int y)]) d_Fi_rank_15 rfl (by decide) rfl rfl ?_
  refine v_iload_n 0 d_Fi_rank_16 rfl rfl rfl ?_
  refine v_iconst (v := (-1)) d_Fi_rank_17 (by decide) rfl ?_
  refine v_icmp_eq (tgt := 30) d_Fi_rank_18 (by decide) rfl (fun c1 => ?_) (fun c1 => ?_)
  · refine v_vret d_Fi_rank_30 rfl ?_
    exact ⟨rfl, rfl, rfl, Or.inl ⟨c1, rfl⟩⟩
  · refine v_aload_n 1 d_Fi_rank_21 rfl rfl rfl ?_
    refine v_getr (r := 121) d_Fi_rank_22 fl_Fi_40 (hS.o (by decide) rfl) rfl (hS.r (by decide) rfl) rfl ?_
    refine v_iload_n 2 d_Fi_rank_25 rfl rfl rfl ?_
    refine v_iload_n 0 d_Fi_rank_26 rfl rfl rfl ?_
    refine v_cVu (as := [.int y, .int (sco I J j m k g sz)]) d_Fi_rank_27 cs_Fi_209 (c_Rk_add hC hS (d := d - 1) hq15 hq y (sco I J j m k g sz) (by omega)) (hS.o (by decide) rfl) (by decide) rfl rfl rfl (by decide) (by omega) rfl (fun I9 ha => ?_)
    refine v_vret d_Fi_rank_30 rfl ?_
    exact ⟨rfl, rfl, rfl, Or.inr ⟨c1, ha.1, ha.2.1, ha.2.2.1, ha.2.2.2.2⟩⟩
def arC (x : Int64) (i : Nat) : Bool := isCd (byOf x (nI i))
set_option maxHeartbeats 4000000 in
set_option maxRecDepth 100000 in
theorem lp_Fi_areCodes {C : CT} {l : Launch} {S : ShT} {d : Nat} (hC : OKC C l) (hd : 1 ≤ d) {I : DI} {J : DJ} {v : Int64} {m : Nat} (hm : m ≤ 100) : ∀ (n : Nat) (i : Nat) (x : Int32), x = nI i → i ≤ m → m < i + n → alF (arC v) 0 m = alF (arC v) i (m - i) → V C l k_Fi_areCodes (d, 0, 0) (PP (.int (bI (alF (arC v) 0 m))) S I J) 2 [(3, .int x), (0, .long v), (2, .int (nI m))] [] S I J (0, 0) := by
  intro n
  induction n with
  | zero =>
    intro i x ex hi0 hf hr
    omega
  | succ n ih =>
    intro i x ex hi0 hf hr
    refine v_iload_n 0 d_Fi_areCodes_2 rfl rfl rfl ?_
    refine v_iload_n 2 d_Fi_areCodes_3 rfl rfl rfl ?_
    refine v_icmp_ge (tgt := 26) d_Fi_areCodes_4 (by decide) rfl (fun c1 => ?_) (fun c1 => ?_)
    · refine v_iconst (v := 1) d_Fi_areCodes_26 (by decide) rfl ?_
      refine v_zret d_Fi_areCodes_27 rfl (Or.inr rfl) ?_
      have him : i = m := by rcases Nat.lt_or_ge i m with h9 | h9; exact absurd c1 (by rw [ex]; exact nI_ge h9 (by omega)); omega
      rw [him, Nat.sub_self] at hr
      exact ⟨by rw [hr]; rfl, rfl, rfl, rfl⟩
    · have him : i < m := by rcases Nat.lt_or_ge i m with h9 | h9; exact h9; exact absurd (by rw [ex]; exact nI_le h9 (by omega)) c1
      rw [show m - i = (m - (i + 1)) + 1 by omega, alF_s] at hr
      refine v_lload_n 1 d_Fi_areCodes_7 rfl rfl rfl ?_
      refine v_iload_n 0 d_Fi_areCodes_8 rfl rfl rfl ?_
      refine v_cSp (as := [.long v, .int x]) d_Fi_areCodes_9 cs_Fi_89 (by rw [ex]; exact c_Fi_byteOf hC (d := d - 1) v (nI i) (by omega)) rfl rfl (by decide) (by omega) rfl ?_
      refine v_cSp (as := [.int (byOf v (nI i))]) d_Fi_areCodes_12 cs_Fi_148 (c_Fi_isCode hC (d := d - 1) (byOf v (nI i)) (by omega)) rfl rfl (by decide) (by omega) rfl ?_
      refine v_if_ne (tgt := 20) d_Fi_areCodes_15 (by decide) rfl (fun c2 => ?_) (fun c2 => ?_)
      · obtain ⟨x3, ex3⟩ : ∃ y : Int32, y = x + 1 := ⟨_, rfl⟩
        have nx3 : x3 = nI (i + 1) := by rw [ex3, show x = nI i from ex]; exact nI_1 _
        refine v_iinc (n := 0) (v := x3) (L' := [(3, .int x3), (0, .long v), (2, .int (nI m))]) d_Fi_areCodes_20 rfl (by rw [ex3]; rfl) (by decide) rfl rfl ?_
        refine v_goto (tgt := 2) d_Fi_areCodes_23 (by decide) ?_
        rw [show arC v i = true from bI_t c2, Bool.true_and] at hr
        exact ih (i + 1) _ nx3 (by omega) (by omega) hr
      · refine v_iconst (v := 0) d_Fi_areCodes_18 (by decide) rfl ?_
        refine v_zret d_Fi_areCodes_19 rfl (Or.inl rfl) ?_
        rw [show arC v i = false from bI_f c2, Bool.false_and] at hr
        exact ⟨by rw [hr]; rfl, rfl, rfl, rfl⟩
set_option maxHeartbeats 4000000 in
set_option maxRecDepth 100000 in
theorem c_Fi_areCodes {C : CT} {l : Launch} {S : ShT} {I : DI} {J : DJ} {d : Nat} (hC : OKC C l) {m : Nat} (v : Int64) (hm : m ≤ 100) (hd : 1 ≤ d) : Sp C l k_Fi_areCodes y_Fi_areCodes (d, 0, 0) [.long v, .int (nI m)] S I J (PP (.int (bI (alF (arC v) 0 m))) S I J) := by
  refine Sp.of hC cd_Fi_areCodes (Nat.le_of_ble_eq_true rfl) ?_
  show V C l k_Fi_areCodes (d, 0, 0) _ 0 [(0, .long v), (2, .int (nI m))] [] S I J (0, 0)
  refine v_iconst (v := 0) d_Fi_areCodes_0 (by decide) rfl ?_
  refine v_istore_n (L' := [(3, .int 0), (0, .long v), (2, .int (nI m))]) d_Fi_areCodes_1 rfl (by decide) rfl rfl ?_
  exact lp_Fi_areCodes hC hd hm (m + 1) 0 _ rfl (by omega) (by omega) rfl
