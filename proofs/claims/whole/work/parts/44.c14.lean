/-- a term from a on: a fault's place, or where it ends (behind blanks), with -, with *, its words -/
def trE (c : Nat → Int32) (n b : Nat) (neg pre : Bool) (ws : List (Nat × Nat)) : Nat ⊕ (Nat × Bool × Bool × List (Nat × Nat)) := if okE c n b then .inr (skb c n b, neg, pre, ws) else .inl b
def trB (c : Nat → Int32) (n b : Nat) (neg : Bool) : Nat ⊕ (Nat × Bool × Bool × List (Nat × Nat)) :=
  if nx c n b = 34 then (match phr c n (b + 1) with
    | .inl f => .inl f
    | .inr p => trE c n p.1 neg false p.2)
  else if badW c n b then .inl (b + lcn c n b 8)
  else trE c n (b + lcn c n b 8 + if nx c n (b + lcn c n b 8) = 42 then 1 else 0) neg (decide (nx c n (b + lcn c n b 8) = 42)) [(b, lcn c n b 8)]
def trm (c : Nat → Int32) (n a : Nat) : Nat ⊕ (Nat × Bool × Bool × List (Nat × Nat)) := if nx c n a = 45 then trB c n (a + 1) true else trB c n a false
/-- the frame of the term i -/
def FrA (i : Nat) (I : DI) (J : DJ) (I' : DI) (J' : DJ) : Prop := (∀ b, b ≠ 76 → b ≠ 79 + 2 * i → I' b = I b) ∧ (∀ j, j ≠ 3 → j ≠ 5 → j ≠ 6 → I' 76 j = I 76 j) ∧ I' 76 3 = nI (i + 1) ∧ (∀ b, b ≠ 79 + 2 * i → b ≠ 80 + 2 * i → J' b = J b)
theorem FrA.t {i : Nat} {I I1 I2 : DI} {J J1 J2 : DJ} (h : FrA i I J I1 J1) (g : FrT i I1 J1 I2 J2) : FrA i I J I2 J2 :=
  ⟨fun b b1 b2 => (g.1 b b1 b2).trans (h.1 b b1 b2), fun j j1 j2 j3 => (g.2.1 j j2 j3).trans (h.2.1 j j1 j2 j3), (g.2.1 3 (by decide) (by decide)).trans h.2.2.1, fun b b1 b2 => (g.2.2.2 b b1 b2).trans (h.2.2.2 b b1 b2)⟩
theorem FrA.at5 {i : Nat} {I0 I : DI} {J0 J : DJ} (hi : i < 21) (h : FrA i I0 J0 I J) (x : Int32) : FrA i I0 J0 (u2 I 76 5 x) J := h.t (FrT.rf.at5 hi x)
theorem FrA.at6 {i : Nat} {I0 I : DI} {J0 J : DJ} (hi : i < 21) (h : FrA i I0 J0 I J) (x : Int32) : FrA i I0 J0 (u2 I 76 6 x) J := h.t (FrT.rf.at6 hi x)
theorem FrA.c {i : Nat} {I0 I : DI} {J0 J : DJ} (hi : i < 21) (h : FrA i I0 J0 I J) : I 77 = I0 77 := h.1 77 (by decide) (by omega)
theorem FrA.n {i : Nat} {I0 I : DI} {J0 J : DJ} (h : FrA i I0 J0 I J) : I 76 1 = I0 76 1 := h.2.1 1 (by decide) (by decide) (by decide)
/-- the term i holds this -/
def TmH (c : Nat → Int32) (i g : Nat) (neg pre : Bool) (ws : List (Nat × Nat)) (I : DI) (J : DJ) : Prop :=
  I (79 + 2 * i) 1 = nI ws.length ∧ I (79 + 2 * i) 2 = nI g ∧ I (79 + 2 * i) 3 = bI neg ∧ (∀ j s l, ws[j]? = some (s, l) → J (80 + 2 * i) j = wC c s l) ∧ J (79 + 2 * i) 4 = if pre then msk (ws.getD 0 (0, 0)).2 else -1
def TmQ (I0 : DI) (J0 : DJ) (i n a g : Nat) (I : DI) (J : DJ) : Prop := FrA i I0 J0 I J ∧ match trm (I0 77) n a with
  | .inl f => I 76 6 = nI f ∧ f ≤ n ∧ ∃ b, b ≤ n ∧ I 76 5 = nI b
  | .inr p => I 76 6 = -1 ∧ I 76 5 = nI p.1 ∧ p.1 ≤ n ∧ TmH (I0 77) i g p.2.1 p.2.2.1 p.2.2.2 I J
set_option maxHeartbeats 4000000 in
set_option maxRecDepth 100000 in
theorem lpF_Qy_parseTerm {C : CT} {l : Launch} {S : ShT} {d : Nat} (hC : OKC C l) (hS : SHP S) (hd : 3 ≤ d) {I0 : DI} {J0 : DJ} {i n a g : Nat} (hi : i < 21) (hn40 : n ≤ 40) (hn : I0 76 1 = nI n) {I : DI} {J : DJ} {f b : Nat} (hp : trm (I0 77) n a = .inl f) (hfr : FrA i I0 J0 I J) (h6 : I 76 6 = nI f) (hf : f ≤ n) (hb : b ≤ n) (h5 : I 76 5 = nI b) : V C l k_Qy_parseTerm (d, 0, 0) (PW S (TmQ I0 J0 i n a g)) 83 [(1, .ref (79 + 2 * i)), (0, .ref 76)] [] S I J (0, 0) := by
  refine v_aload_n 1 d_Qy_parseTerm_83 rfl rfl rfl ?_
  refine v_cVp (as := []) d_Qy_parseTerm_84 cs_Qy_41 (c_Qy_isFaulty hC hS (d := d - 1) (by omega)) (hS.o (by decide) rfl) (by decide) rfl rfl rfl (by decide) (by omega) rfl ?_
  refine v_if_ne (tgt := 94) d_Qy_parseTerm_87 (by decide) rfl (fun c1 => ?_) (fun c1 => ?_)
  · refine v_vret d_Qy_parseTerm_94 rfl ?_
    refine ⟨rfl, rfl, hfr, ?_⟩
    rw [hp]
    exact ⟨h6, hf, b, hb, h5⟩
  · exact absurd c1 (by rw [h6]; simp [bI, nI_m1 (show f < 100 by omega)])
set_option maxHeartbeats 4000000 in
set_option maxRecDepth 100000 in
theorem lpE_Qy_parseTerm {C : CT} {l : Launch} {S : ShT} {d : Nat} (hC : OKC C l) (hS : SHP S) (hd : 3 ≤ d) {I0 : DI} {J0 : DJ} {i n a g : Nat} (hi : i < 21) (hn40 : n ≤ 40) (hn : I0 76 1 = nI n) {I : DI} {J : DJ} {b : Nat} {neg pre : Bool} {ws : List (Nat × Nat)} (hp : trm (I0 77) n a = trE (I0 77) n b neg pre ws) (hfr : FrA i I0 J0 I J) (h6 : I 76 6 = -1) (hb : b ≤ n) (h5 : I 76 5 = nI b) (hT : TmH (I0 77) i g neg pre ws I J) : V C l k_Qy_parseTerm (d, 0, 0) (PW S (TmQ I0 J0 i n a g)) 83 [(1, .ref (79 + 2 * i)), (0, .ref 76)] [] S I J (0, 0) := by
  refine v_aload_n 1 d_Qy_parseTerm_83 rfl rfl rfl ?_
  refine v_cVp (as := []) d_Qy_parseTerm_84 cs_Qy_41 (c_Qy_isFaulty hC hS (d := d - 1) (by omega)) (hS.o (by decide) rfl) (by decide) rfl rfl rfl (by decide) (by omega) rfl ?_
  refine v_if_ne (tgt := 94) d_Qy_parseTerm_87 (by decide) rfl (fun c1 => ?_) (fun c1 => ?_)
  · exact absurd (by rw [h6]; simp [bI]) c1
  · refine v_aload_n 1 d_Qy_parseTerm_90 rfl rfl rfl ?_
    refine v_cVu (as := []) d_Qy_parseTerm_91 cs_Qy_93 (c_Qy_endTerm hC hS (d := d - 1) (n := n) (a := b) hn40 hb (by rw [hfr.n]; exact hn) h5 (by omega)) (hS.o (by decide) rfl) (by decide) rfl rfl rfl (by decide) (by omega) rfl (fun I9 he => ?_)
    refine v_vret d_Qy_parseTerm_94 rfl ?_
    rcases he with ⟨q1, q2⟩ | ⟨q1, q2⟩
    · rw [hfr.c hi] at q1 q2
      refine ⟨rfl, rfl, by rw [q2]; exact hfr.at5 hi _, ?_⟩
      rw [hp, trE, if_pos q1]
      obtain ⟨t1, t2, t3, t4, t5⟩ := hT
      exact ⟨by rw [q2, u2_n (by decide)]; exact h6, by rw [q2, u2_s], (skb_le hb).2, by rw [q2, u2_o (by omega)]; exact t1, by rw [q2, u2_o (by omega)]; exact t2, by rw [q2, u2_o (by omega)]; exact t3, t4, t5⟩
    · rw [hfr.c hi] at q1 q2
      refine ⟨rfl, rfl, by rw [q2]; exact (hfr.at6 hi _).at5 hi _, ?_⟩
      rw [hp, trE, if_neg (by rw [q1]; decide)]
      exact ⟨by rw [q2, u2_n (by decide), u2_s], hb, _, (skb_le hb).2, by rw [q2, u2_s]⟩
set_option maxHeartbeats 4000000 in
set_option maxRecDepth 100000 in
theorem lpB_Qy_parseTerm {C : CT} {l : Launch} {S : ShT} {d : Nat} (hC : OKC C l) (hS : SHP S) (hd : 3 ≤ d) {I0 : DI} {J0 : DJ} {i n a g : Nat} (hi : i < 21) (hn40 : n ≤ 40) (hn : I0 76 1 = nI n) {I : DI} {J : DJ} {b : Nat} {neg : Bool} (htr : trm (I0 77) n a = trB (I0 77) n b neg) (hfr : FrA i I0 J0 I J) (h6 : I 76 6 = -1) (hb : b ≤ n) (h5 : I 76 5 = nI b) (h1 : I (79 + 2 * i) 1 = nI 0) (h2 : I (79 + 2 * i) 2 = nI g) (h3 : I (79 + 2 * i) 3 = bI neg) (h4 : J (79 + 2 * i) 4 = -1) : V C l k_Qy_parseTerm (d, 0, 0) (PW S (TmQ I0 J0 i n a g)) 51 [(1, .ref (79 + 2 * i)), (0, .ref 76)] [] S I J (0, 0) := by
  refine v_aload_n 1 d_Qy_parseTerm_51 rfl rfl rfl ?_
  refine v_cVp (as := []) d_Qy_parseTerm_52 cs_Qy_45 (c_Qy_next hC hS (d := d - 1) (n := n) (a := b) hn40 hb (by rw [hfr.n]; exact hn) h5 (by omega)) (hS.o (by decide) rfl) (by decide) rfl rfl rfl (by decide) (by omega) rfl ?_
  refine v_bipush (v := 34) d_Qy_parseTerm_55 (by decide) rfl ?_
  refine v_icmp_ne (tgt := 78) d_Qy_parseTerm_57 (by decide) rfl (fun c1 => ?_) (fun c1 => ?_)
  · have hqt : ¬ nx (I0 77) n b = 34 := by have h9 := c1; rw [hfr.c hi] at h9; exact h9
    refine v_aload_n 1 d_Qy_parseTerm_78 rfl rfl rfl ?_
    refine v_aload_n 0 d_Qy_parseTerm_79 rfl rfl rfl ?_
    refine v_cVw (as := [.ref (79 + 2 * i)]) d_Qy_parseTerm_80 cs_Qy_90 (c_Qy_parseWordOrBeginning hC hS (d := d - 1) (n := n) (a := b) hi hn40 hb (by rw [hfr.n]; exact hn) h5 h1 h6 (by omega)) (hS.o (by decide) rfl) (by decide) rfl rfl rfl (by decide) (by omega) rfl (fun I8 J8 hq => ?_)
    rw [WbQ, hfr.c hi] at hq
    obtain ⟨q0, hq⟩ := hq
    rcases hq with ⟨q1, q2, b9, q3, q4⟩ | ⟨q1, q2, q3, q4, q5, q6⟩
    · exact lpF_Qy_parseTerm hC hS hd hi hn40 hn (by rw [htr]; unfold trB; rw [if_neg hqt, if_pos q1]) (hfr.t q0) q2 (lcn_n 8 b hb) q3 q4
    · have hbe : b + lcn (I0 77) n b 8 + (if nx (I0 77) n (b + lcn (I0 77) n b 8) = 42 then 1 else 0) ≤ n := by
        by_cases h9 : nx (I0 77) n (b + lcn (I0 77) n b 8) = 42
        · rw [if_pos h9]; exact isQ_lt h9
        · rw [if_neg h9]; exact lcn_n 8 b hb
      refine lpE_Qy_parseTerm hC hS hd hi hn40 hn (neg := neg) (pre := decide (nx (I0 77) n (b + lcn (I0 77) n b 8) = 42)) (ws := [(b, lcn (I0 77) n b 8)]) (by rw [htr]; unfold trB; rw [if_neg hqt, if_neg (by rw [q1]; decide)]) (hfr.t q0) q2 hbe q3 ⟨by rw [q4]; rfl, by rw [q0.2.2.1 2 (by decide)]; exact h2, by rw [q0.2.2.1 3 (by decide)]; exact h3, fun j s l hj => ?_, ?_⟩
      · cases j with
        | zero => simp at hj; rw [← hj.1, ← hj.2]; exact q5
        | succ j => simp at hj
      · rw [q6, h4]; by_cases h9 : nx (I0 77) n (b + lcn (I0 77) n b 8) = 42 <;> simp [h9]
  · have hqt : nx (I0 77) n b = 34 := by have h9 := c1; rw [hfr.c hi] at h9; exact h9
    have hb1 : b + 1 ≤ n := isQ_lt hqt
    refine v_aload_n 1 d_Qy_parseTerm_60 rfl rfl rfl ?_
    refine v_dup d_Qy_parseTerm_61 rfl rfl ?_
    refine v_geti d_Qy_parseTerm_62 fl_Qy_26 (hS.o (by decide) rfl) rfl rfl ?_
    refine v_iconst (v := 1) d_Qy_parseTerm_65 (by decide) rfl ?_
    refine v_iadd d_Qy_parseTerm_66 rfl ?_
    refine v_nmi (fun z2 ez2 => ?_)
    have nz2 : z2 = nI (b + 1) := by rw [ez2, show I 76 5 = nI b from h5, show 1 = nI 1 from rfl]; exact nI_add _ _
    refine v_puti d_Qy_parseTerm_67 fl_Qy_26 (hS.o (by decide) rfl) rfl rfl rfl ?_
    generalize hI3 : u2 I 76 5 z2 = I3
    refine v_aload_n 1 d_Qy_parseTerm_70 rfl rfl rfl ?_
    refine v_aload_n 0 d_Qy_parseTerm_71 rfl rfl rfl ?_
    refine v_cVw (as := [.ref (79 + 2 * i)]) d_Qy_parseTerm_72 cs_Qy_86 (c_Qy_parsePhrase hC hS (d := d - 1) (n := n) (a := b + 1) hi hn40 hb1 (by rw [← hI3, u2_n (by decide), hfr.n]; exact hn) (by rw [← hI3, u2_s]; exact nz2) (by rw [← hI3, u2_o (by omega)]; exact h1) (by rw [← hI3, u2_n (by decide)]; exact h6) (by omega)) (hS.o (by decide) rfl) (by decide) rfl rfl rfl (by decide) (by omega) rfl (fun I8 J8 hq => ?_)
    refine v_goto (tgt := 83) d_Qy_parseTerm_75 (by decide) ?_
    have hfq : FrA i I0 J0 I3 J := by rw [← hI3]; exact hfr.at5 hi _
    unfold PhQ at hq
    rw [hfq.c hi] at hq
    cases hph : phr (I0 77) n (b + 1) with
    | inl f =>
      rw [hph] at hq
      obtain ⟨q1, q2, q3, b9, q4, q5⟩ := hq
      exact lpF_Qy_parseTerm hC hS hd hi hn40 hn (by rw [htr]; unfold trB; rw [if_pos hqt, hph]) (hfq.t q1) q2 q3 q4 q5
    | inr p =>
      rw [hph] at hq
      obtain ⟨q1, q2, q3, q4, q5, q6, q7⟩ := hq
      exact lpE_Qy_parseTerm hC hS hd hi hn40 hn (neg := neg) (pre := false) (ws := p.2) (by rw [htr]; unfold trB; rw [if_pos hqt, hph]) (hfq.t q1) q2 q4 q3 ⟨q5, by rw [q1.2.2.1 2 (by decide), ← hI3, u2_o (by omega)]; exact h2, by rw [q1.2.2.1 3 (by decide), ← hI3, u2_o (by omega)]; exact h3, fun j s l hj => by rw [q6 j s l hj, hfq.c hi], by rw [q7]; exact h4⟩
set_option maxHeartbeats 4000000 in
set_option maxRecDepth 100000 in
theorem c_Qy_parseTerm {C : CT} {l : Launch} {S : ShT} {I : DI} {J : DJ} {d : Nat} (hC : OKC C l) (hS : SHP S) {i n a g : Nat} (hi : i < 21) (hn40 : n ≤ 40) (han : a ≤ n) (hn : I 76 1 = nI n) (ha : I 76 5 = nI a) (hf : I 76 6 = -1) (ht : I 76 3 = nI i) (hg0 : I 76 4 = nI g) (hd : 3 ≤ d) : Sp C l k_Qy_parseTerm y_Qy_parseTerm (d, 0, 0) [.ref 76] S I J (PW S (TmQ I J i n a g)) := by
  refine Sp.of hC cd_Qy_parseTerm (Nat.le_of_ble_eq_true rfl) ?_
  show V C l k_Qy_parseTerm (d, 0, 0) _ 0 [(0, .ref 76)] [] S I J (0, 0)
  refine v_aload_n 0 d_Qy_parseTerm_0 rfl rfl rfl ?_
  refine v_getr (r := 78) d_Qy_parseTerm_1 fl_Qy_17 (hS.o (by decide) rfl) rfl (hS.r (by decide) rfl) rfl ?_
  refine v_aload_n 0 d_Qy_parseTerm_4 rfl rfl rfl ?_
  refine v_geti d_Qy_parseTerm_5 fl_Qy_32 (hS.o (by decide) rfl) rfl rfl ?_
  refine v_aald (j := i) (r := (79 + 2 * i)) d_Qy_parseTerm_8 (hS.a (t := 36) (n := 21) (by decide) rfl) (by decide) ht (by omega) (by decide) (hS.tmR (by omega)) rfl ?_
  refine v_astore_n (L' := [(1, .ref (79 + 2 * i)), (0, .ref 76)]) d_Qy_parseTerm_9 rfl (by decide) rfl rfl ?_
  refine v_aload_n 0 d_Qy_parseTerm_10 rfl rfl rfl ?_
  refine v_aload_n 1 d_Qy_parseTerm_11 rfl rfl rfl ?_
  refine v_geti d_Qy_parseTerm_12 fl_Qy_35 (hS.o (by decide) rfl) rfl rfl ?_
  refine v_cVw (as := [.int (I 76 4)]) d_Qy_parseTerm_15 cs_Qy_79 (c_Tm_begin hC hS (d := d - 1) hi (I 76 4) (by omega)) (hS.tm hi) (by decide) rfl rfl rfl (by decide) (by omega) rfl (fun I1 J1 hb => ?_)
  have h31 : I1 76 3 = nI i := by rw [hb.1, u2_o (by omega), u2_o (by omega), u2_o (by omega)]; exact ht
  refine v_aload_n 1 d_Qy_parseTerm_18 rfl rfl rfl ?_
  refine v_dup d_Qy_parseTerm_19 rfl rfl ?_
  refine v_geti d_Qy_parseTerm_20 fl_Qy_32 (hS.o (by decide) rfl) rfl rfl ?_
  refine v_iconst (v := 1) d_Qy_parseTerm_23 (by decide) rfl ?_
  refine v_iadd d_Qy_parseTerm_24 rfl ?_
  refine v_nmi (fun z1 ez1 => ?_)
  have nz1 : z1 = nI (i + 1) := by rw [ez1, show I1 76 3 = nI i from h31, show 1 = nI 1 from rfl]; exact nI_add _ _
  refine v_puti d_Qy_parseTerm_25 fl_Qy_32 (hS.o (by decide) rfl) rfl rfl rfl ?_
  generalize hI2 : u2 I1 76 3 z1 = I2
  obtain ⟨hb1, hb2⟩ := hb
  have hfr : FrA i I J I2 J1 := ⟨fun b b1 b2 => by rw [← hI2, u2_o b1, hb1, u2_o b2, u2_o b2, u2_o b2], fun j j1 j2 j3 => by rw [← hI2, u2_n (Or.inr j1), hb1, u2_o (by omega), u2_o (by omega), u2_o (by omega)], by rw [← hI2, u2_s]; exact nz1, fun b b1 b2 => by rw [hb2, u2_o b1]⟩
  have h6 : I2 76 6 = -1 := by rw [← hI2, u2_n (by decide), hb1, u2_o (by omega), u2_o (by omega), u2_o (by omega)]; exact hf
  have h5 : I2 76 5 = nI a := by rw [← hI2, u2_n (by decide), hb1, u2_o (by omega), u2_o (by omega), u2_o (by omega)]; exact ha
  have h1 : I2 (79 + 2 * i) 1 = nI 0 := by rw [← hI2, u2_o (by omega), hb1, u2_n (Or.inr (by decide)), u2_n (Or.inr (by decide)), u2_s]; rfl
  have h2 : I2 (79 + 2 * i) 2 = nI g := by rw [← hI2, u2_o (by omega), hb1, u2_n (Or.inr (by decide)), u2_s]; exact hg0
  have h3 : I2 (79 + 2 * i) 3 = bI false := by rw [← hI2, u2_o (by omega), hb1, u2_s]; rfl
  have h4 : J1 (79 + 2 * i) 4 = -1 := by rw [hb2, u2_s]
  refine v_aload_n 1 d_Qy_parseTerm_28 rfl rfl rfl ?_
  refine v_cVp (as := []) d_Qy_parseTerm_29 cs_Qy_45 (c_Qy_next hC hS (d := d - 1) (n := n) (a := a) hn40 han (by rw [hfr.n]; exact hn) h5 (by omega)) (hS.o (by decide) rfl) (by decide) rfl rfl rfl (by decide) (by omega) rfl ?_
  refine v_bipush (v := 45) d_Qy_parseTerm_32 (by decide) rfl ?_
  refine v_icmp_ne (tgt := 51) d_Qy_parseTerm_34 (by decide) rfl (fun c3 => ?_) (fun c3 => ?_)
  · have hng : ¬ nx (I 77) n a = 45 := by have h9 := c3; rw [hfr.c hi] at h9; exact h9
    exact lpB_Qy_parseTerm hC hS hd hi hn40 hn (b := a) (neg := false) (by unfold trm; rw [if_neg hng]) hfr h6 han h5 h1 h2 h3 h4
  · have hng : nx (I 77) n a = 45 := by have h9 := c3; rw [hfr.c hi] at h9; exact h9
    refine v_aload_n 0 d_Qy_parseTerm_37 rfl rfl rfl ?_
    refine v_cVu (as := []) d_Qy_parseTerm_38 cs_Qy_83 (c_Tm_forbid hC hS (d := d - 1) hi (by omega)) (hS.tm hi) (by decide) rfl rfl rfl (by decide) (by omega) rfl (fun I3 hg => ?_)
    have h53 : I3 76 5 = nI a := by rw [hg, u2_o (by omega)]; exact h5
    refine v_aload_n 1 d_Qy_parseTerm_41 rfl rfl rfl ?_
    refine v_dup d_Qy_parseTerm_42 rfl rfl ?_
    refine v_geti d_Qy_parseTerm_43 fl_Qy_26 (hS.o (by decide) rfl) rfl rfl ?_
    refine v_iconst (v := 1) d_Qy_parseTerm_46 (by decide) rfl ?_
    refine v_iadd d_Qy_parseTerm_47 rfl ?_
    refine v_nmi (fun z4 ez4 => ?_)
    have nz4 : z4 = nI (a + 1) := by rw [ez4, show I3 76 5 = nI a from h53, show 1 = nI 1 from rfl]; exact nI_add _ _
    refine v_puti d_Qy_parseTerm_48 fl_Qy_26 (hS.o (by decide) rfl) rfl rfl rfl ?_
    generalize hI5 : u2 I3 76 5 z4 = I5
    exact lpB_Qy_parseTerm hC hS hd hi hn40 hn (b := a + 1) (neg := true) (by unfold trm; rw [if_pos hng]) (by rw [← hI5]; exact FrA.at5 hi (by rw [hg]; exact ⟨fun b b1 b2 => by rw [u2_o b2]; exact hfr.1 b b1 b2, fun j j1 j2 j3 => by rw [u2_o (by omega)]; exact hfr.2.1 j j1 j2 j3, by rw [u2_o (by omega)]; exact hfr.2.2.1, hfr.2.2.2⟩) _) (by rw [← hI5, u2_n (by decide), hg, u2_o (by omega)]; exact h6) (isQ_lt hng) (by rw [← hI5, u2_s]; exact nz4) (by rw [← hI5, u2_o (by omega), hg, u2_n (Or.inr (by decide))]; exact h1) (by rw [← hI5, u2_o (by omega), hg, u2_n (Or.inr (by decide))]; exact h2) (by rw [← hI5, u2_o (by omega), hg, u2_s]; rfl) h4
