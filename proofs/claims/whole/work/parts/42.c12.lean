def phF (c : Nat → Int32) (n : Nat) : Nat → Nat → List (Nat × Nat) → Option Nat × Nat × List (Nat × Nat)
  | 0, a, ws => (none, a, ws)
  | k + 1, a, ws => if isLt (nx c n a) then (if badW c n a then (some (a + lcn c n a 8), a, ws) else phF c n k (skb c n (a + lcn c n a 8)) (ws ++ [(a, lcn c n a 8)])) else (none, a, ws)
theorem phF_s (c : Nat → Int32) (n k a : Nat) (ws : List (Nat × Nat)) : phF c n (k + 1) a ws = if isLt (nx c n a) then (if badW c n a then (some (a + lcn c n a 8), a, ws) else phF c n k (skb c n (a + lcn c n a 8)) (ws ++ [(a, lcn c n a 8)])) else (none, a, ws) := rfl
/-- a phrase from behind its first quotation mark: a fault's place, or where it ends and its words -/
def phr (c : Nat → Int32) (n a : Nat) : Nat ⊕ (Nat × List (Nat × Nat)) := match (phF c n 4 (skb c n a) []).1 with
  | some f => .inl f
  | none => if (phF c n 4 (skb c n a) []).2.2 = [] ∨ ¬ nx c n (phF c n 4 (skb c n a) []).2.1 = 34 then .inl (phF c n 4 (skb c n a) []).2.1 else .inr ((phF c n 4 (skb c n a) []).2.1 + 1, (phF c n 4 (skb c n a) []).2.2)
/-- the term i while its words are read -/
def PhS (I0 : DI) (J0 : DJ) (i n b : Nat) (ws : List (Nat × Nat)) (I : DI) (J : DJ) : Prop :=
  FrT i I0 J0 I J ∧ I 76 6 = -1 ∧ I 76 5 = nI b ∧ b ≤ n ∧ I (79 + 2 * i) 1 = nI ws.length ∧ (∀ j s l, ws[j]? = some (s, l) → J (80 + 2 * i) j = wC (I0 77) s l) ∧ J (79 + 2 * i) 4 = J0 (79 + 2 * i) 4
def PhQ (I0 : DI) (J0 : DJ) (i n a : Nat) (I : DI) (J : DJ) : Prop := match phr (I0 77) n a with
  | .inl f => FrT i I0 J0 I J ∧ I 76 6 = nI f ∧ f ≤ n ∧ ∃ b, b ≤ n ∧ I 76 5 = nI b
  | .inr p => PhS I0 J0 i n p.1 p.2 I J
theorem FrT.rf {i : Nat} {I : DI} {J : DJ} : FrT i I J I J := ⟨fun _ _ _ => rfl, fun _ _ _ => rfl, fun _ _ => rfl, fun _ _ _ => rfl⟩
theorem FrT.at5 {i : Nat} {I0 I : DI} {J0 J : DJ} (hi : i < 21) (h : FrT i I0 J0 I J) (x : Int32) : FrT i I0 J0 (u2 I 76 5 x) J := h.trans ⟨fun b b1 b2 => by rw [u2_o b1], fun j j1 j2 => by rw [u2_n (Or.inr j1)], fun j j1 => by rw [u2_o (by omega)], fun _ _ _ => rfl⟩
theorem FrT.at6 {i : Nat} {I0 I : DI} {J0 J : DJ} (hi : i < 21) (h : FrT i I0 J0 I J) (x : Int32) : FrT i I0 J0 (u2 I 76 6 x) J := h.trans ⟨fun b b1 b2 => by rw [u2_o b1], fun j j1 j2 => by rw [u2_n (Or.inr j2)], fun j j1 => by rw [u2_o (by omega)], fun _ _ _ => rfl⟩
theorem FrT.c {i : Nat} {I0 I : DI} {J0 J : DJ} (hi : i < 21) (h : FrT i I0 J0 I J) : I 77 = I0 77 := h.1 77 (by decide) (by omega)
theorem FrT.n {i : Nat} {I0 I : DI} {J0 J : DJ} (h : FrT i I0 J0 I J) : I 76 1 = I0 76 1 := h.2.1 1 (by decide) (by decide)
theorem PhS.add {I0 I I1 : DI} {J0 J J1 : DJ} {i n b : Nat} {ws : List (Nat × Nat)} (hi : i < 21) (h : PhS I0 J0 i n b ws I J) (hb : badW (I0 77) n b = false) (h1 : I1 = u2 (u2 I 76 5 (nI (b + lcn (I0 77) n b 8))) (79 + 2 * i) 1 (nI (ws.length + 1))) (h2 : J1 = u2 J (80 + 2 * i) ws.length (wC (I0 77) b (lcn (I0 77) n b 8))) : PhS I0 J0 i n (skb (I0 77) n (b + lcn (I0 77) n b 8)) (ws ++ [(b, lcn (I0 77) n b 8)]) (u2 I1 76 5 (nI (skb (I0 77) n (b + lcn (I0 77) n b 8)))) J1 := by
  obtain ⟨g1, g2, g3, g4, g5, g6, g7⟩ := h
  refine ⟨FrT.at5 hi (g1.trans ⟨fun b b1 b2 => by rw [h1, u2_o b2, u2_o b1], fun j j1 j2 => by rw [h1, u2_o (by omega), u2_n (Or.inr j1)], fun j j1 => by rw [h1, u2_n (Or.inr j1), u2_o (by omega)], fun b b1 b2 => by rw [h2, u2_o b2]⟩) _, ?_, ?_, ?_, ?_, ?_, ?_⟩
  · rw [u2_n (by decide), h1, u2_o (by omega), u2_n (by decide)]; exact g2
  · rw [u2_s]
  · exact (skb_le (lcn_n 8 b g4)).2
  · rw [u2_o (by omega), h1, u2_s]; simp
  · intro j s l hj
    by_cases hl : j < ws.length
    · rw [List.getElem?_append_left hl] at hj
      rw [h2, u2_n (Or.inr (by omega))]
      exact g6 j s l hj
    · rw [List.getElem?_append_right (by omega)] at hj
      have hz : j - ws.length < 1 := (List.getElem?_eq_some_iff.mp hj).1
      rw [show j - ws.length = 0 by omega] at hj
      cases hj
      rw [h2, show j = ws.length by omega, u2_s]
  · rw [h2, u2_o (by omega)]; exact g7
set_option maxHeartbeats 4000000 in
set_option maxRecDepth 100000 in
theorem lpF_Qy_parsePhrase {C : CT} {l : Launch} {S : ShT} {d : Nat} (hC : OKC C l) (hS : SHP S) (hd : 2 ≤ d) {I0 : DI} {J0 : DJ} {i n a : Nat} (hi : i < 21) (hn40 : n ≤ 40) (hn : I0 76 1 = nI n) {I : DI} {J : DJ} {x : Int32} {f b : Nat} (hp : phr (I0 77) n a = .inl f) (hfr : FrT i I0 J0 I J) (h6 : I 76 6 = nI f) (hf : f ≤ n) (hb : b ≤ n) (h5 : I 76 5 = nI b) : V C l k_Qy_parsePhrase (d, 0, 0) (PW S (PhQ I0 J0 i n a)) 6 [(2, .int x), (0, .ref 76), (1, .ref (79 + 2 * i))] [] S I J (0, 0) := by
  refine v_iload_n 0 d_Qy_parsePhrase_6 rfl rfl rfl ?_
  refine v_iconst (v := 4) d_Qy_parsePhrase_7 (by decide) rfl ?_
  refine v_icmp_ge (tgt := 43) d_Qy_parsePhrase_8 (by decide) rfl (fun c1 => ?_) (fun c1 => ?_)
  · refine v_aload_n 1 d_Qy_parsePhrase_43 rfl rfl rfl ?_
    refine v_cVp (as := []) d_Qy_parsePhrase_44 cs_Qy_41 (c_Qy_isFaulty hC hS (d := d - 1) (by omega)) (hS.o (by decide) rfl) (by decide) rfl rfl rfl (by decide) (by omega) rfl ?_
    refine v_if_eq (tgt := 51) d_Qy_parsePhrase_47 (by decide) rfl (fun c2 => ?_) (fun c2 => ?_)
    · exact absurd c2 (by rw [h6]; simp [bI, nI_m1 (show f < 100 by omega)])
    · refine v_vret d_Qy_parsePhrase_50 rfl ?_
      refine ⟨rfl, rfl, ?_⟩
      unfold PhQ
      rw [hp]
      exact ⟨hfr, h6, hf, b, hb, h5⟩
  · refine v_aload_n 1 d_Qy_parsePhrase_11 rfl rfl rfl ?_
    refine v_cVp (as := []) d_Qy_parsePhrase_12 cs_Qy_41 (c_Qy_isFaulty hC hS (d := d - 1) (by omega)) (hS.o (by decide) rfl) (by decide) rfl rfl rfl (by decide) (by omega) rfl ?_
    refine v_if_ne (tgt := 43) d_Qy_parsePhrase_15 (by decide) rfl (fun c3 => ?_) (fun c3 => ?_)
    · refine v_aload_n 1 d_Qy_parsePhrase_43 rfl rfl rfl ?_
      refine v_cVp (as := []) d_Qy_parsePhrase_44 cs_Qy_41 (c_Qy_isFaulty hC hS (d := d - 1) (by omega)) (hS.o (by decide) rfl) (by decide) rfl rfl rfl (by decide) (by omega) rfl ?_
      refine v_if_eq (tgt := 51) d_Qy_parsePhrase_47 (by decide) rfl (fun c4 => ?_) (fun c4 => ?_)
      · exact absurd c4 (by rw [h6]; simp [bI, nI_m1 (show f < 100 by omega)])
      · refine v_vret d_Qy_parsePhrase_50 rfl ?_
        refine ⟨rfl, rfl, ?_⟩
        unfold PhQ
        rw [hp]
        exact ⟨hfr, h6, hf, b, hb, h5⟩
    · exact absurd c3 (by rw [h6]; simp [bI, nI_m1 (show f < 100 by omega)])
theorem isQ_lt {c : Nat → Int32} {n a : Nat} {x : Int32} (h : nx c n a = x) (h0 : ¬ x = 0 := by decide) : a + 1 ≤ n := by
  rcases Nat.lt_or_ge a n with h9 | h9
  · exact h9
  · rw [nx_ge (by omega)] at h
    exact absurd h.symm h0
set_option maxHeartbeats 4000000 in
set_option maxRecDepth 100000 in
theorem lpE_Qy_parsePhrase {C : CT} {l : Launch} {S : ShT} {d : Nat} (hC : OKC C l) (hS : SHP S) (hd : 2 ≤ d) {I0 : DI} {J0 : DJ} {i n a : Nat} (hi : i < 21) (hn40 : n ≤ 40) (hn : I0 76 1 = nI n) {I : DI} {J : DJ} {x : Int32} {b : Nat} {ws : List (Nat × Nat)} (hr : phF (I0 77) n 4 (skb (I0 77) n a) [] = (none, b, ws)) (hwl : ws.length ≤ 4) (hPS : PhS I0 J0 i n b ws I J) : V C l k_Qy_parsePhrase (d, 0, 0) (PW S (PhQ I0 J0 i n a)) 43 [(2, .int x), (0, .ref 76), (1, .ref (79 + 2 * i))] [] S I J (0, 0) := by
  refine v_aload_n 1 d_Qy_parsePhrase_43 rfl rfl rfl ?_
  refine v_cVp (as := []) d_Qy_parsePhrase_44 cs_Qy_41 (c_Qy_isFaulty hC hS (d := d - 1) (by omega)) (hS.o (by decide) rfl) (by decide) rfl rfl rfl (by decide) (by omega) rfl ?_
  refine v_if_eq (tgt := 51) d_Qy_parsePhrase_47 (by decide) rfl (fun c1 => ?_) (fun c1 => ?_)
  · refine v_aload_n 2 d_Qy_parsePhrase_51 rfl rfl rfl ?_
    refine v_cVp (as := []) d_Qy_parsePhrase_52 cs_Qy_105 (c_Tm_isEmpty hC hS (d := d - 1) hi (by omega)) (hS.tm hi) (by decide) rfl rfl rfl (by decide) (by omega) rfl ?_
    refine v_if_ne (tgt := 67) d_Qy_parsePhrase_55 (by decide) rfl (fun c2 => ?_) (fun c2 => ?_)
    · have hws : ws = [] := by by_cases h9 : ws = []; exact h9; exact absurd (show bI (decide (I (79 + 2 * i) 1 = 0)) = 0 by rw [hPS.2.2.2.2.1]; simp [bI, nI_ne0 (List.length_pos_iff.mpr h9) (by omega)]) c2
      refine v_aload_n 1 d_Qy_parsePhrase_67 rfl rfl rfl ?_
      refine v_aload_n 1 d_Qy_parsePhrase_68 rfl rfl rfl ?_
      refine v_geti d_Qy_parsePhrase_69 fl_Qy_26 (hS.o (by decide) rfl) rfl rfl ?_
      refine v_puti d_Qy_parsePhrase_72 fl_Qy_29 (hS.o (by decide) rfl) rfl rfl rfl ?_
      generalize hI3 : u2 I 76 6 (I 76 5) = I3
      refine v_goto (tgt := 88) d_Qy_parsePhrase_75 (by decide) ?_
      refine v_vret d_Qy_parsePhrase_88 rfl ?_
      refine ⟨rfl, rfl, ?_⟩
      unfold PhQ phr
      rw [hr]
      show (match (if ws = [] ∨ ¬ nx (I0 77) n b = 34 then _ else _ : Nat ⊕ (Nat × List (Nat × Nat))) with | .inl f => _ | .inr p => _)
      rw [if_pos (Or.inl hws)]
      exact ⟨by rw [← hI3]; exact hPS.1.at6 hi _, by rw [← hI3, u2_s]; exact hPS.2.2.1, hPS.2.2.2.1, b, hPS.2.2.2.1, by rw [← hI3, u2_n (by decide)]; exact hPS.2.2.1⟩
    · have hws : ¬ ws = [] := by intro h9; have h8 := c2; rw [hPS.2.2.2.2.1, h9] at h8; simp [bI, nI_0] at h8
      refine v_aload_n 1 d_Qy_parsePhrase_58 rfl rfl rfl ?_
      refine v_cVp (as := []) d_Qy_parsePhrase_59 cs_Qy_45 (c_Qy_next hC hS (d := d - 1) (n := n) (a := b) hn40 hPS.2.2.2.1 (by rw [hPS.1.n]; exact hn) hPS.2.2.1 (by omega)) (hS.o (by decide) rfl) (by decide) rfl rfl rfl (by decide) (by omega) rfl ?_
      refine v_bipush (v := 34) d_Qy_parsePhrase_62 (by decide) rfl ?_
      refine v_icmp_eq (tgt := 78) d_Qy_parsePhrase_64 (by decide) rfl (fun c4 => ?_) (fun c4 => ?_)
      · have hq : nx (I0 77) n b = 34 := by have h9 := c4; rw [hPS.1.c hi] at h9; exact h9
        refine v_aload_n 1 d_Qy_parsePhrase_78 rfl rfl rfl ?_
        refine v_dup d_Qy_parsePhrase_79 rfl rfl ?_
        refine v_geti d_Qy_parsePhrase_80 fl_Qy_26 (hS.o (by decide) rfl) rfl rfl ?_
        refine v_iconst (v := 1) d_Qy_parsePhrase_83 (by decide) rfl ?_
        refine v_iadd d_Qy_parsePhrase_84 rfl ?_
        refine v_nmi (fun z5 ez5 => ?_)
        have nz5 : z5 = nI (b + 1) := by rw [ez5, show I 76 5 = nI b from hPS.2.2.1, show 1 = nI 1 from rfl]; exact nI_add _ _
        refine v_puti d_Qy_parsePhrase_85 fl_Qy_26 (hS.o (by decide) rfl) rfl rfl rfl ?_
        generalize hI6 : u2 I 76 5 z5 = I6
        refine v_vret d_Qy_parsePhrase_88 rfl ?_
        refine ⟨rfl, rfl, ?_⟩
        unfold PhQ phr
        rw [hr]
        show (match (if ws = [] ∨ ¬ nx (I0 77) n b = 34 then _ else _ : Nat ⊕ (Nat × List (Nat × Nat))) with | .inl f => _ | .inr p => _)
        rw [if_neg (by rintro (h9 | h9); exact hws h9; exact h9 hq)]
        obtain ⟨g1, g2, g3, g4, g5, g6, g7⟩ := hPS
        exact ⟨by rw [← hI6]; exact g1.at5 hi _, by rw [← hI6, u2_n (by decide)]; exact g2, by rw [← hI6, u2_s]; exact nz5, isQ_lt hq, by rw [← hI6, u2_o (by omega)]; exact g5, g6, g7⟩
      · have hq : ¬ nx (I0 77) n b = 34 := by have h9 := c4; rw [hPS.1.c hi] at h9; exact h9
        refine v_aload_n 1 d_Qy_parsePhrase_67 rfl rfl rfl ?_
        refine v_aload_n 1 d_Qy_parsePhrase_68 rfl rfl rfl ?_
        refine v_geti d_Qy_parsePhrase_69 fl_Qy_26 (hS.o (by decide) rfl) rfl rfl ?_
        refine v_puti d_Qy_parsePhrase_72 fl_Qy_29 (hS.o (by decide) rfl) rfl rfl rfl ?_
        generalize hI7 : u2 I 76 6 (I 76 5) = I7
        refine v_goto (tgt := 88) d_Qy_parsePhrase_75 (by decide) ?_
        refine v_vret d_Qy_parsePhrase_88 rfl ?_
        refine ⟨rfl, rfl, ?_⟩
        unfold PhQ phr
        rw [hr]
        show (match (if ws = [] ∨ ¬ nx (I0 77) n b = 34 then _ else _ : Nat ⊕ (Nat × List (Nat × Nat))) with | .inl f => _ | .inr p => _)
        rw [if_pos (Or.inr hq)]
        exact ⟨by rw [← hI7]; exact hPS.1.at6 hi _, by rw [← hI7, u2_s]; exact hPS.2.2.1, hPS.2.2.2.1, b, hPS.2.2.2.1, by rw [← hI7, u2_n (by decide)]; exact hPS.2.2.1⟩
  · exact absurd (by rw [hPS.2.1]; simp [bI]) c1
