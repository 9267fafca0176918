theorem AlQ.base {I0 I I1 : DI} {J0 J J1 : DJ} {n a g : Nat} {ts : List TT} (h : FrP I0 J0 I J) (q : AlQ I J n a g ts I1 J1) : AlQ I0 J0 n a g ts I1 J1 := by
  obtain ⟨q1, q2⟩ := q
  rw [h.c] at q2
  refine ⟨h.trans q1, ?_⟩
  cases hr : altF (I0 77) n g 41 (skb (I0 77) n a) ts with
  | inl f => rw [hr] at q2; exact q2
  | inr p =>
    rw [hr] at q2
    obtain ⟨⟨f1, f2, f3, f4, f5, f6⟩, g2, g3⟩ := q2
    rw [h.c] at f6
    exact ⟨⟨h.trans f1, f2, f3, f4, f5, f6⟩, g2, g3⟩
theorem prsF_s {c : Nat → Int32} {n k a g : Nat} {ts : List TT} : prsF c n (k + 1) a ts g = match altF c n g 41 (skb c n a) ts with
    | .inl f => .inl f
    | .inr q => if nx c n q.1 = 124 then prsF c n k (q.1 + 1) q.2 (g + 1) else .inr (q.2, g + 1) := rfl
def PsQ (I0 : DI) (J0 : DJ) (n : Nat) (x : Int32) (I : DI) (J : DJ) : Prop := FrP I0 J0 I J ∧ match prsF (I0 77) n 41 0 [] 0 with
  | .inl f => x = nI f ∧ f ≤ n
  | .inr q => x = -1 ∧ I 76 3 = nI q.1.length ∧ I 76 4 = nI q.2 ∧ TsH (I0 77) q.1 I J ∧ 2 * q.1.length ≤ n + 1
set_option maxHeartbeats 4000000 in
set_option maxRecDepth 100000 in
theorem lpF_Qy_parse {C : CT} {l : Launch} {S : ShT} {d : Nat} (hC : OKC C l) (hS : SHP S) (hd : 5 ≤ d) {I0 : DI} {J0 : DJ} {n : Nat} (hn40 : n ≤ 40) (hn : I0 76 1 = nI n) {I : DI} {J : DJ} {f : Nat} {x : Int32} (hp : prsF (I0 77) n 41 0 [] 0 = .inl f) (hfr : FrP I0 J0 I J) (h6 : I 76 6 = nI f) (hf : f ≤ n) : V C l k_Qy_parse (d, 0, 0) (PJ S (PsQ I0 J0 n)) 26 [(1, .int x), (0, .ref 76)] [] S I J (0, 0) := by
  refine v_iload_n 0 d_Qy_parse_26 rfl rfl rfl ?_
  refine v_bipush (v := 40) d_Qy_parse_27 (by decide) rfl ?_
  refine v_icmp_ge (tgt := 68) d_Qy_parse_29 (by decide) rfl (fun c1 => ?_) (fun c1 => ?_)
  · refine v_aload_n 1 d_Qy_parse_68 rfl rfl rfl ?_
    refine v_geti d_Qy_parse_69 fl_Qy_29 (hS.o (by decide) rfl) rfl rfl ?_
    refine v_iret d_Qy_parse_72 rfl ?_
    refine ⟨rfl, _, rfl, hfr, ?_⟩
    rw [hp]
    exact ⟨h6, hf⟩
  · refine v_aload_n 1 d_Qy_parse_32 rfl rfl rfl ?_
    refine v_cVp (as := []) d_Qy_parse_33 cs_Qy_41 (c_Qy_isFaulty hC hS (d := d - 1) (by omega)) (hS.o (by decide) rfl) (by decide) rfl rfl rfl (by decide) (by omega) rfl ?_
    refine v_if_ne (tgt := 68) d_Qy_parse_36 (by decide) rfl (fun c2 => ?_) (fun c2 => ?_)
    · refine v_aload_n 1 d_Qy_parse_68 rfl rfl rfl ?_
      refine v_geti d_Qy_parse_69 fl_Qy_29 (hS.o (by decide) rfl) rfl rfl ?_
      refine v_iret d_Qy_parse_72 rfl ?_
      refine ⟨rfl, _, rfl, hfr, ?_⟩
      rw [hp]
      exact ⟨h6, hf⟩
    · exact absurd c2 (by rw [h6]; simp [bI, nI_m1 (show f < 100 by omega)])
set_option maxHeartbeats 4000000 in
set_option maxRecDepth 100000 in
theorem lp_Qy_parse {C : CT} {l : Launch} {S : ShT} {d : Nat} (hC : OKC C l) (hS : SHP S) (hd : 5 ≤ d) {I0 : DI} {J0 : DJ} {n : Nat} (hn40 : n ≤ 40) (hn : I0 76 1 = nI n) : ∀ (n0 t p : Nat) (ts : List TT) (g : Nat) (I : DI) (J : DJ) (x : Int32), x = nI t → t ≤ 40 → 40 < t + n0 → p ≤ n → PaS I0 J0 p g ts I J → 2 * ts.length ≤ p + 1 → prsF (I0 77) n 41 0 [] 0 = (if nx (I0 77) n p = 124 then prsF (I0 77) n (40 - t) (p + 1) ts g else .inr (ts, g)) → V C l k_Qy_parse (d, 0, 0) (PJ S (PsQ I0 J0 n)) 26 [(1, .int x), (0, .ref 76)] [] S I J (0, 0) := by
  intro n0
  induction n0 with
  | zero =>
    intro t p ts g I J x h1 h2 h3
    omega
  | succ n0 ih =>
    intro t p ts g I J x ex ht hf hpn hPS h3 hr
    have hc : I 77 = I0 77 := hPS.1.c
    have hn1 : I 76 1 = nI n := by rw [hPS.1.n]; exact hn
    have h5 := hPS.2.2.2.1
    refine v_iload_n 0 d_Qy_parse_26 rfl rfl rfl ?_
    refine v_bipush (v := 40) d_Qy_parse_27 (by decide) rfl ?_
    refine v_icmp_ge (tgt := 68) d_Qy_parse_29 (by decide) rfl (fun c1 => ?_) (fun c1 => ?_)
    · refine v_aload_n 1 d_Qy_parse_68 rfl rfl rfl ?_
      refine v_geti d_Qy_parse_69 fl_Qy_29 (hS.o (by decide) rfl) rfl rfl ?_
      refine v_iret d_Qy_parse_72 rfl ?_
      have ht40 : t = 40 := by rcases Nat.lt_or_ge t 40 with h9 | h9; exact absurd c1 (by rw [ex]; exact nI_ge (b := 40) h9 (by decide)); omega
      have hr2 : prsF (I0 77) n 41 0 [] 0 = .inr (ts, g) := by rw [hr, ht40]; by_cases h9 : nx (I0 77) n p = 124; rw [if_pos h9]; rfl; rw [if_neg h9]
      refine ⟨rfl, _, rfl, hPS.1, ?_⟩
      rw [hr2]
      exact ⟨hPS.2.2.2.2.1, hPS.2.1, hPS.2.2.1, hPS.2.2.2.2.2, by simp only; omega⟩
    · refine v_aload_n 1 d_Qy_parse_32 rfl rfl rfl ?_
      refine v_cVp (as := []) d_Qy_parse_33 cs_Qy_41 (c_Qy_isFaulty hC hS (d := d - 1) (by omega)) (hS.o (by decide) rfl) (by decide) rfl rfl rfl (by decide) (by omega) rfl ?_
      refine v_if_ne (tgt := 68) d_Qy_parse_36 (by decide) rfl (fun c2 => ?_) (fun c2 => ?_)
      · exact absurd (by rw [hPS.2.2.2.2.1]; simp [bI]) c2
      · refine v_aload_n 1 d_Qy_parse_39 rfl rfl rfl ?_
        refine v_cVp (as := []) d_Qy_parse_40 cs_Qy_45 (c_Qy_next hC hS (d := d - 1) (n := n) (a := p) hn40 hpn hn1 hPS.2.2.2.1 (by omega)) (hS.o (by decide) rfl) (by decide) rfl rfl rfl (by decide) (by omega) rfl ?_
        refine v_bipush (v := 124) d_Qy_parse_43 (by decide) rfl ?_
        refine v_icmp_ne (tgt := 68) d_Qy_parse_45 (by decide) rfl (fun c3 => ?_) (fun c3 => ?_)
        · refine v_aload_n 1 d_Qy_parse_68 rfl rfl rfl ?_
          refine v_geti d_Qy_parse_69 fl_Qy_29 (hS.o (by decide) rfl) rfl rfl ?_
          refine v_iret d_Qy_parse_72 rfl ?_
          have hA : ¬ nx (I0 77) n p = 124 := by have h9 := c3; rw [hc] at h9; exact h9
          have hr2 : prsF (I0 77) n 41 0 [] 0 = .inr (ts, g) := by rw [hr, if_neg hA]
          refine ⟨rfl, _, rfl, hPS.1, ?_⟩
          rw [hr2]
          exact ⟨hPS.2.2.2.2.1, hPS.2.1, hPS.2.2.1, hPS.2.2.2.2.2, by simp only; omega⟩
        · have hb : nx (I0 77) n p = 124 := by have h9 := c3; rw [hc] at h9; exact h9
          have ht40 : t < 40 := by rcases Nat.lt_or_ge t 40 with h9 | h9; exact h9; exact absurd (by rw [ex]; exact nI_le (a := 40) h9 (by omega)) c1
          refine v_aload_n 1 d_Qy_parse_48 rfl rfl rfl ?_
          refine v_dup d_Qy_parse_49 rfl rfl ?_
          refine v_geti d_Qy_parse_50 fl_Qy_26 (hS.o (by decide) rfl) rfl rfl ?_
          refine v_iconst (v := 1) d_Qy_parse_53 (by decide) rfl ?_
          refine v_iadd d_Qy_parse_54 rfl ?_
          refine v_nmi (fun z4 ez4 => ?_)
          have nz4 : z4 = nI (p + 1) := by rw [ez4, show I 76 5 = nI p from h5, show 1 = nI 1 from rfl]; exact nI_add _ _
          refine v_puti d_Qy_parse_55 fl_Qy_26 (hS.o (by decide) rfl) rfl rfl rfl ?_
          generalize hI5 : u2 I 76 5 z4 = I5
          have hP2 : PaS I0 J0 (p + 1) g ts I5 J := by obtain ⟨g1, g2, g3, g4, g5, g6⟩ := hPS; exact ⟨by rw [← hI5]; exact g1.trans (FrP.q 5 _ (by decide)), by rw [← hI5, u2_n (by decide)]; exact g2, by rw [← hI5, u2_n (by decide)]; exact g3, by rw [← hI5, u2_s]; exact nz4, by rw [← hI5, u2_n (by decide)]; exact g5, by rw [← hI5]; exact g6.q 5 _⟩
          refine v_aload_n 1 d_Qy_parse_58 rfl rfl rfl ?_
          refine v_cVw (as := []) d_Qy_parse_59 cs_Qy_38 (c_Qy_parseAlternative hC hS (d := d - 1) (n := n) (a := p + 1) (g := g) (ts := ts) hn40 (isQ_lt hb) h3 (by rw [hP2.1.n]; exact hn) hP2.2.2.2.1 hP2.2.2.2.2.1 hP2.2.1 hP2.2.2.1 (by rw [hP2.1.c]; exact hP2.2.2.2.2.2) (by omega)) (hS.o (by decide) rfl) (by decide) rfl rfl rfl (by decide) (by omega) rfl (fun I1 J1 hq => ?_)
          obtain ⟨x6, ex6⟩ : ∃ y : Int32, y = x + 1 := ⟨_, rfl⟩
          have nx6 : x6 = nI (t + 1) := by rw [ex6, show x = nI t from ex]; exact nI_1 _
          refine v_iinc (n := 0) (v := x6) (L' := [(1, .int x6), (0, .ref 76)]) d_Qy_parse_62 rfl (by rw [ex6]; rfl) (by decide) rfl rfl ?_
          refine v_goto (tgt := 26) d_Qy_parse_65 (by decide) ?_
          have hq2 := AlQ.base hP2.1 hq
          rw [if_pos hb, show 40 - t = (40 - (t + 1)) + 1 by omega, prsF_s (k := 40 - (t + 1))] at hr
          obtain ⟨k1, k2⟩ := hq2
          cases htr : altF (I0 77) n g 41 (skb (I0 77) n (p + 1)) ts with
          | inl f =>
            rw [htr] at k2
            rw [htr] at hr
            exact lpF_Qy_parse hC hS hd hn40 hn hr k1 k2.1 k2.2
          | inr q =>
            rw [htr] at k2
            rw [htr] at hr
            exact ih (t + 1) q.1 q.2 (g + 1) _ _ _ nx6 (by omega) (by omega) k2.2.1 k2.1 k2.2.2 hr
set_option maxHeartbeats 4000000 in
set_option maxRecDepth 100000 in
theorem c_Qy_parse {C : CT} {l : Launch} {S : ShT} {I : DI} {J : DJ} {d : Nat} (hC : OKC C l) (hS : SHP S) {n : Nat} (hn40 : n ≤ 40) (hn : I 76 1 = nI n) (hd : 5 ≤ d) : Sp C l k_Qy_parse y_Qy_parse (d, 0, 0) [.ref 76] S I J (PJ S (PsQ I J n)) := by
  refine Sp.of hC cd_Qy_parse (Nat.le_of_ble_eq_true rfl) ?_
  show V C l k_Qy_parse (d, 0, 0) _ 0 [(0, .ref 76)] [] S I J (0, 0)
  refine v_aload_n 0 d_Qy_parse_0 rfl rfl rfl ?_
  refine v_iconst (v := 0) d_Qy_parse_1 (by decide) rfl ?_
  refine v_puti d_Qy_parse_2 fl_Qy_26 (hS.o (by decide) rfl) rfl rfl rfl ?_
  generalize hI1 : u2 I 76 5 0 = I1
  refine v_aload_n 0 d_Qy_parse_5 rfl rfl rfl ?_
  refine v_iconst (v := (-1)) d_Qy_parse_6 (by decide) rfl ?_
  refine v_puti d_Qy_parse_7 fl_Qy_29 (hS.o (by decide) rfl) rfl rfl rfl ?_
  generalize hI2 : u2 I1 76 6 (-1) = I2
  refine v_aload_n 0 d_Qy_parse_10 rfl rfl rfl ?_
  refine v_iconst (v := 0) d_Qy_parse_11 (by decide) rfl ?_
  refine v_puti d_Qy_parse_12 fl_Qy_32 (hS.o (by decide) rfl) rfl rfl rfl ?_
  generalize hI3 : u2 I2 76 3 0 = I3
  refine v_aload_n 0 d_Qy_parse_15 rfl rfl rfl ?_
  refine v_iconst (v := 0) d_Qy_parse_16 (by decide) rfl ?_
  refine v_puti d_Qy_parse_17 fl_Qy_35 (hS.o (by decide) rfl) rfl rfl rfl ?_
  generalize hI4 : u2 I3 76 4 0 = I4
  have hP2 : PaS I J 0 0 [] I4 J := by subst hI1 hI2 hI3 hI4; exact ⟨((FrP.q 5 _ (by decide)).trans (FrP.q 6 _ (by decide))).trans ((FrP.q 3 _ (by decide)).trans (FrP.q 4 _ (by decide))), by rw [u2_n (by decide), u2_s]; rfl, by rw [u2_s]; rfl, by rw [u2_n (by decide), u2_n (by decide), u2_n (by decide), u2_s]; rfl, by rw [u2_n (by decide), u2_n (by decide), u2_s], fun j t hj => by simp at hj⟩
  refine v_aload_n 0 d_Qy_parse_20 rfl rfl rfl ?_
  refine v_cVw (as := []) d_Qy_parse_21 cs_Qy_38 (c_Qy_parseAlternative hC hS (d := d - 1) (n := n) (a := 0) (g := 0) (ts := []) hn40 (by omega) (by simp) (by rw [hP2.1.n]; exact hn) hP2.2.2.2.1 hP2.2.2.2.2.1 hP2.2.1 hP2.2.2.1 (by rw [hP2.1.c]; exact hP2.2.2.2.2.2) (by omega)) (hS.o (by decide) rfl) (by decide) rfl rfl rfl (by decide) (by omega) rfl (fun I9 J9 hq => ?_)
  refine v_iconst (v := 0) d_Qy_parse_24 (by decide) rfl ?_
  refine v_istore_n (L' := [(1, .int 0), (0, .ref 76)]) d_Qy_parse_25 rfl (by decide) rfl rfl ?_
  have hq2 := AlQ.base hP2.1 hq
  have hr : prsF (I 77) n 41 0 [] 0 = _ := prsF_s (k := 40)
  obtain ⟨k1, k2⟩ := hq2
  cases htr : altF (I 77) n 0 41 (skb (I 77) n 0) [] with
  | inl f =>
    rw [htr] at k2
    rw [htr] at hr
    exact lpF_Qy_parse hC hS hd hn40 hn hr k1 k2.1 k2.2
  | inr q =>
    rw [htr] at k2
    rw [htr] at hr
    exact lp_Qy_parse hC hS hd hn40 hn 41 0 q.1 q.2 (0 + 1) _ _ _ rfl (by omega) (by omega) k2.2.1 k2.1 k2.2.2 hr
