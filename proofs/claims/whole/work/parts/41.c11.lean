theorem nI_m1 {k : Nat} (h : k < 100) : ¬ nI k = -1 := by
  intro h9
  have := congrArg Int32.toInt h9
  rw [nI_toInt (by omega)] at this
  exact absurd this (by show ¬ ((k : Int) = -1); omega)
def msk (l : Nat) : Int64 := (-1) <<< ((8 * (8 - nI l)).toInt64 &&& 63)
/-- the frame of what reads into the term i -/
def FrT (i : Nat) (I : DI) (J : DJ) (I' : DI) (J' : DJ) : Prop := (∀ b, b ≠ 76 → b ≠ 79 + 2 * i → I' b = I b) ∧ (∀ j, j ≠ 5 → j ≠ 6 → I' 76 j = I 76 j) ∧ (∀ j, j ≠ 1 → I' (79 + 2 * i) j = I (79 + 2 * i) j) ∧ (∀ b, b ≠ 79 + 2 * i → b ≠ 80 + 2 * i → J' b = J b)
theorem FrT.trans {i : Nat} {I I1 I2 : DI} {J J1 J2 : DJ} (h : FrT i I J I1 J1) (g : FrT i I1 J1 I2 J2) : FrT i I J I2 J2 :=
  ⟨fun b b1 b2 => (g.1 b b1 b2).trans (h.1 b b1 b2), fun j j1 j2 => (g.2.1 j j1 j2).trans (h.2.1 j j1 j2), fun j j1 => (g.2.2.1 j j1).trans (h.2.2.1 j j1), fun b b1 b2 => (g.2.2.2 b b1 b2).trans (h.2.2.2 b b1 b2)⟩
theorem PwQ.fr {I : DI} {J : DJ} {i n a s : Nat} {I' : DI} {J' : DJ} (hi : i < 21) (h : PwQ I J i n a s I' J') : FrT i I J I' J' := by
  rcases h with ⟨-, rfl, rfl⟩ | ⟨-, rfl, rfl⟩
  · exact ⟨fun b b1 b2 => by rw [u2_o b1, u2_o b1], fun j j1 j2 => by rw [u2_n (Or.inr j2), u2_n (Or.inr j1)], fun j _ => by rw [u2_o (by omega), u2_o (by omega)], fun _ _ _ => rfl⟩
  · exact ⟨fun b b1 b2 => by rw [u2_o b2, u2_o b1], fun j j1 j2 => by rw [u2_o (by omega), u2_n (Or.inr j1)], fun j j1 => by rw [u2_n (Or.inr j1), u2_o (by omega)], fun b b1 b2 => by rw [u2_o b2]⟩
/-- a word, or a word and * -/
def WbQ (I : DI) (J : DJ) (i n a : Nat) (I' : DI) (J' : DJ) : Prop := FrT i I J I' J' ∧
  ((badW (I 77) n a = true ∧ I' 76 6 = nI (a + lcn (I 77) n a 8) ∧ ∃ b, b ≤ n ∧ I' 76 5 = nI b) ∨
   (badW (I 77) n a = false ∧ I' 76 6 = -1 ∧ I' 76 5 = nI (a + lcn (I 77) n a 8 + if nx (I 77) n (a + lcn (I 77) n a 8) = 42 then 1 else 0) ∧ I' (79 + 2 * i) 1 = 1 ∧ J' (80 + 2 * i) 0 = wC (I 77) a (lcn (I 77) n a 8) ∧
    J' (79 + 2 * i) 4 = if nx (I 77) n (a + lcn (I 77) n a 8) = 42 then msk (lcn (I 77) n a 8) else J (79 + 2 * i) 4))
set_option maxHeartbeats 4000000 in
set_option maxRecDepth 100000 in
theorem c_Qy_parseWordOrBeginning {C : CT} {l : Launch} {S : ShT} {I : DI} {J : DJ} {d : Nat} (hC : OKC C l) (hS : SHP S) {i n a : Nat} (hi : i < 21) (hn40 : n ≤ 40) (han : a ≤ n) (hn : I 76 1 = nI n) (ha : I 76 5 = nI a) (hs : I (79 + 2 * i) 1 = nI 0) (hf : I 76 6 = -1) (hd : 2 ≤ d) : Sp C l k_Qy_parseWordOrBeginning y_Qy_parseWordOrBeginning (d, 0, 0) [.ref 76, .ref (79 + 2 * i)] S I J (PW S (WbQ I J i n a)) := by
  refine Sp.of hC cd_Qy_parseWordOrBeginning (Nat.le_of_ble_eq_true rfl) ?_
  have hln : a + lcn (I 77) n a 8 ≤ n := lcn_n 8 a han
  show V C l k_Qy_parseWordOrBeginning (d, 0, 0) _ 0 [(0, .ref 76), (1, .ref (79 + 2 * i))] [] S I J (0, 0)
  refine v_aload_n 0 d_Qy_parseWordOrBeginning_0 rfl rfl rfl ?_
  refine v_geti d_Qy_parseWordOrBeginning_1 fl_Qy_26 (hS.o (by decide) rfl) rfl rfl ?_
  refine v_istore_n (L' := [(2, .int (I 76 5)), (0, .ref 76), (1, .ref (79 + 2 * i))]) d_Qy_parseWordOrBeginning_4 rfl (by decide) rfl rfl ?_
  refine v_aload_n 1 d_Qy_parseWordOrBeginning_5 rfl rfl rfl ?_
  refine v_aload_n 2 d_Qy_parseWordOrBeginning_6 rfl rfl rfl ?_
  refine v_cVw (as := [.ref (79 + 2 * i)]) d_Qy_parseWordOrBeginning_7 cs_Qy_96 (c_Qy_parseWord hC hS (d := d - 1) (n := n) (a := a) (s := 0) hi hn40 han (by omega) hn ha hs (by omega)) (hS.o (by decide) rfl) (by decide) rfl rfl rfl (by decide) (by omega) rfl (fun I1 J1 hw => ?_)
  rcases id hw with ⟨q1, q2, q3⟩ | ⟨q1, q2, q3⟩
  · have h6 : I1 76 6 = nI (a + lcn (I 77) n a 8) := by rw [q2, u2_s]
    have h5 : I1 76 5 = nI (a + lcn (I 77) n a 8) := by rw [q2, u2_n (by decide), u2_s]
    have hfr := PwQ.fr hi hw
    refine v_aload_n 1 d_Qy_parseWordOrBeginning_10 rfl rfl rfl ?_
    refine v_cVp (as := []) d_Qy_parseWordOrBeginning_11 cs_Qy_41 (c_Qy_isFaulty hC hS (d := d - 1) (by omega)) (hS.o (by decide) rfl) (by decide) rfl rfl rfl (by decide) (by omega) rfl ?_
    refine v_if_ne (tgt := 46) d_Qy_parseWordOrBeginning_14 (by decide) rfl (fun c1 => ?_) (fun c1 => ?_)
    · refine v_vret d_Qy_parseWordOrBeginning_46 rfl ?_
      exact ⟨rfl, rfl, hfr, Or.inl ⟨q1, h6, _, hln, h5⟩⟩
    · exact absurd (show _ = (0 : Int32) from c1) (by rw [h6]; simp [bI, nI_m1 (show a + lcn (I 77) n a 8 < 100 by omega)])
  · have h6 : I1 76 6 = -1 := by rw [q2, u2_o (by omega), u2_n (by decide)]; exact hf
    have h5 : I1 76 5 = nI (a + lcn (I 77) n a 8) := by rw [q2, u2_o (by omega), u2_s]
    have hn1 : I1 76 1 = nI n := by rw [q2, u2_o (by omega), u2_n (by decide)]; exact hn
    have hc : I1 77 = I 77 := by rw [q2, u2_o (by omega), u2_o (by decide)]
    have hfr := PwQ.fr hi hw
    refine v_aload_n 1 d_Qy_parseWordOrBeginning_10 rfl rfl rfl ?_
    refine v_cVp (as := []) d_Qy_parseWordOrBeginning_11 cs_Qy_41 (c_Qy_isFaulty hC hS (d := d - 1) (by omega)) (hS.o (by decide) rfl) (by decide) rfl rfl rfl (by decide) (by omega) rfl ?_
    refine v_if_ne (tgt := 46) d_Qy_parseWordOrBeginning_14 (by decide) rfl (fun c2 => ?_) (fun c2 => ?_)
    · exact absurd (by rw [h6]; simp [bI]) c2
    · refine v_aload_n 1 d_Qy_parseWordOrBeginning_17 rfl rfl rfl ?_
      refine v_cVp (as := []) d_Qy_parseWordOrBeginning_18 cs_Qy_45 (c_Qy_next hC hS (d := d - 1) (n := n) (a := (a + lcn (I 77) n a 8)) hn40 hln hn1 h5 (by omega)) (hS.o (by decide) rfl) (by decide) rfl rfl rfl (by decide) (by omega) rfl ?_
      refine v_bipush (v := 42) d_Qy_parseWordOrBeginning_21 (by decide) rfl ?_
      refine v_icmp_ne (tgt := 46) d_Qy_parseWordOrBeginning_23 (by decide) rfl (fun c3 => ?_) (fun c3 => ?_)
      · have hst : ¬ nx (I 77) n (a + lcn (I 77) n a 8) = 42 := by have h9 := c3; rw [hc] at h9; exact h9
        refine v_vret d_Qy_parseWordOrBeginning_46 rfl ?_
        refine ⟨rfl, rfl, hfr, Or.inr ⟨q1, h6, ?_, ?_, ?_, ?_⟩⟩
        · rw [h5, if_neg hst]; rfl
        · rw [q2, u2_s]; rfl
        · rw [q3, u2_s]
        · rw [if_neg hst, q3, u2_o (by omega)]
      · have hst : nx (I 77) n (a + lcn (I 77) n a 8) = 42 := by have h9 := c3; rw [hc] at h9; exact h9
        refine v_aload_n 2 d_Qy_parseWordOrBeginning_26 rfl rfl rfl ?_
        refine v_aload_n 1 d_Qy_parseWordOrBeginning_27 rfl rfl rfl ?_
        refine v_geti d_Qy_parseWordOrBeginning_28 fl_Qy_26 (hS.o (by decide) rfl) rfl rfl ?_
        refine v_iload_n 0 d_Qy_parseWordOrBeginning_31 rfl rfl rfl ?_
        refine v_isub d_Qy_parseWordOrBeginning_32 rfl ?_
        refine v_nmi (fun z4 ez4 => ?_)
        have nz4 : z4 = nI ((a + lcn (I 77) n a 8) - a) := by rw [ez4, show I1 76 5 = nI (a + lcn (I 77) n a 8) from h5, show I 76 5 = nI a from ha]; exact pk_sub (by omega)
        refine v_cVw (as := [.int z4]) d_Qy_parseWordOrBeginning_33 cs_Qy_99 (c_Tm_compareOnly hC hS (d := d - 1) hi z4 (by omega)) (hS.tm hi) (by decide) rfl rfl rfl (by decide) (by omega) rfl (fun I2 J2 hm => ?_)
        have h52 : I2 76 5 = nI (a + lcn (I 77) n a 8) := by rw [hm.1]; exact h5
        refine v_aload_n 1 d_Qy_parseWordOrBeginning_36 rfl rfl rfl ?_
        refine v_dup d_Qy_parseWordOrBeginning_37 rfl rfl ?_
        refine v_geti d_Qy_parseWordOrBeginning_38 fl_Qy_26 (hS.o (by decide) rfl) rfl rfl ?_
        refine v_iconst (v := 1) d_Qy_parseWordOrBeginning_41 (by decide) rfl ?_
        refine v_iadd d_Qy_parseWordOrBeginning_42 rfl ?_
        refine v_nmi (fun z5 ez5 => ?_)
        have nz5 : z5 = nI ((a + lcn (I 77) n a 8) + 1) := by rw [ez5, show I2 76 5 = nI (a + lcn (I 77) n a 8) from h52, show 1 = nI 1 from rfl]; exact nI_add _ _
        refine v_puti d_Qy_parseWordOrBeginning_43 fl_Qy_26 (hS.o (by decide) rfl) rfl rfl rfl ?_
        generalize hI6 : u2 I2 76 5 z5 = I6
        refine v_vret d_Qy_parseWordOrBeginning_46 rfl ?_
        obtain ⟨g1, g2⟩ := hm
        subst g1
        refine ⟨rfl, rfl, ?_, Or.inr ⟨q1, ?_, ?_, ?_, ?_, ?_⟩⟩
        · refine FrT.trans hfr ⟨fun b b1 b2 => by rw [← hI6, u2_o b1], fun j j1 j2 => by rw [← hI6, u2_n (Or.inr j1)], fun j j1 => by rw [← hI6, u2_o (by omega)], fun b b1 b2 => by rw [g2, u2_o b1]⟩
        · rw [← hI6, u2_n (by decide)]; exact h6
        · rw [← hI6, u2_s, if_pos hst, nz5]
        · rw [← hI6, u2_o (by omega), q2, u2_s]; rfl
        · rw [g2, u2_o (by omega), q3, u2_s]
        · rw [if_pos hst, g2, u2_s, nz4, show a + lcn (I 77) n a 8 - a = lcn (I 77) n a 8 by omega]; rfl
/-- a term may end at a: a blank, a bar or the end -/
def okE (c : Nat → Int32) (n a : Nat) : Bool := decide (nx c n a = 32) || decide (nx c n a = 0) || decide (nx c n a = 124)
def EtQ (I : DI) (n a : Nat) (I' : DI) : Prop := (okE (I 77) n a = true ∧ I' = u2 I 76 5 (nI (skb (I 77) n a))) ∨ (okE (I 77) n a = false ∧ I' = u2 (u2 I 76 6 (nI a)) 76 5 (nI (skb (I 77) n a)))
set_option maxHeartbeats 4000000 in
set_option maxRecDepth 100000 in
theorem c_Qy_endTerm {C : CT} {l : Launch} {S : ShT} {I : DI} {J : DJ} {d : Nat} (hC : OKC C l) (hS : SHP S) {n a : Nat} (hn40 : n ≤ 40) (han : a ≤ n) (hn : I 76 1 = nI n) (ha : I 76 5 = nI a) (hd : 2 ≤ d) : Sp C l k_Qy_endTerm y_Qy_endTerm (d, 0, 0) [.ref 76] S I J (PU S J (EtQ I n a)) := by
  refine Sp.of hC cd_Qy_endTerm (Nat.le_of_ble_eq_true rfl) ?_
  show V C l k_Qy_endTerm (d, 0, 0) _ 0 [(0, .ref 76)] [] S I J (0, 0)
  refine v_aload_n 0 d_Qy_endTerm_0 rfl rfl rfl ?_
  refine v_cVp (as := []) d_Qy_endTerm_1 cs_Qy_45 (c_Qy_next hC hS (d := d - 1) (n := n) (a := a) hn40 han hn ha (by omega)) (hS.o (by decide) rfl) (by decide) rfl rfl rfl (by decide) (by omega) rfl ?_
  refine v_bipush (v := 32) d_Qy_endTerm_4 (by decide) rfl ?_
  refine v_icmp_eq (tgt := 24) d_Qy_endTerm_6 (by decide) rfl (fun c1 => ?_) (fun c1 => ?_)
  · refine v_aload_n 0 d_Qy_endTerm_24 rfl rfl rfl ?_
    refine v_cVu (as := []) d_Qy_endTerm_25 cs_Qy_70 (c_Qy_skipBlanks hC hS (d := d - 1) (n := n) (a := a) hn40 han hn ha) (hS.o (by decide) rfl) (by decide) rfl rfl rfl (by decide) (by omega) rfl (fun I9 hk => ?_)
    refine v_vret d_Qy_endTerm_28 rfl ?_
    exact ⟨rfl, rfl, rfl, Or.inl ⟨by unfold okE; first | (simp_all [bI]; done) | (by_cases h9 : nx (I 77) n a = 0 <;> simp_all [bI]), hk⟩⟩
  · refine v_aload_n 0 d_Qy_endTerm_9 rfl rfl rfl ?_
    refine v_cVp (as := []) d_Qy_endTerm_10 cs_Qy_76 (c_Qy_atAlternativeEnd hC hS (d := d - 1) (n := n) (a := a) hn40 han hn ha (by omega)) (hS.o (by decide) rfl) (by decide) rfl rfl rfl (by decide) (by omega) rfl ?_
    refine v_if_ne (tgt := 24) d_Qy_endTerm_13 (by decide) rfl (fun c2 => ?_) (fun c2 => ?_)
    · refine v_aload_n 0 d_Qy_endTerm_24 rfl rfl rfl ?_
      refine v_cVu (as := []) d_Qy_endTerm_25 cs_Qy_70 (c_Qy_skipBlanks hC hS (d := d - 1) (n := n) (a := a) hn40 han hn ha) (hS.o (by decide) rfl) (by decide) rfl rfl rfl (by decide) (by omega) rfl (fun I9 hk => ?_)
      refine v_vret d_Qy_endTerm_28 rfl ?_
      exact ⟨rfl, rfl, rfl, Or.inl ⟨by unfold okE; first | (simp_all [bI]; done) | (by_cases h9 : nx (I 77) n a = 0 <;> simp_all [bI]), hk⟩⟩
    · refine v_aload_n 0 d_Qy_endTerm_16 rfl rfl rfl ?_
      refine v_aload_n 0 d_Qy_endTerm_17 rfl rfl rfl ?_
      refine v_geti d_Qy_endTerm_18 fl_Qy_26 (hS.o (by decide) rfl) rfl rfl ?_
      refine v_puti d_Qy_endTerm_21 fl_Qy_29 (hS.o (by decide) rfl) rfl rfl rfl ?_
      generalize hI3 : u2 I 76 6 (I 76 5) = I3
      refine v_aload_n 0 d_Qy_endTerm_24 rfl rfl rfl ?_
      refine v_cVu (as := []) d_Qy_endTerm_25 cs_Qy_70 (c_Qy_skipBlanks hC hS (d := d - 1) (n := n) (a := a) hn40 han (by rw [← hI3, u2_n (by decide)]; exact hn) (by rw [← hI3, u2_n (by decide)]; exact ha)) (hS.o (by decide) rfl) (by decide) rfl rfl rfl (by decide) (by omega) rfl (fun I9 hk => ?_)
      refine v_vret d_Qy_endTerm_28 rfl ?_
      exact ⟨rfl, rfl, rfl, Or.inr ⟨by unfold okE; simp_all [bI], by rw [hk, show I3 77 = I 77 by rw [← hI3, u2_o (by decide)], ← hI3, ha]⟩⟩
