/-! ===== alternatives ===== -/
theorem PaS.ok {I0 I I' : DI} {J0 J J' : DJ} {a g n : Nat} {ts : List TT} {p : Nat × Bool × Bool × List (Nat × Nat)} (hl : ts.length < 21) (h : PaS I0 J0 a g ts I J) (hq : TmQ I J ts.length n a g I' J') (hp : trm (I0 77) n a = .inr p) : PaS I0 J0 p.1 g (ts ++ [(g, p.2)]) I' J' := by
  obtain ⟨f, f3, f4, f5, f6, ft⟩ := h
  obtain ⟨q, hq⟩ := hq
  rw [f.c, hp] at hq
  obtain ⟨q6, q5, qn, qt⟩ := hq
  exact ⟨f.trans (q.p hl), by rw [q.2.2.1]; simp, by rw [q.2.1 4 (by decide) (by decide) (by decide)]; exact f4, q5, q6, ft.add hl q qt⟩
theorem PaS.bad {I0 I I' : DI} {J0 J J' : DJ} {a g n f : Nat} {ts : List TT} (hl : ts.length < 21) (h : PaS I0 J0 a g ts I J) (hq : TmQ I J ts.length n a g I' J') (hp : trm (I0 77) n a = .inl f) : FrP I0 J0 I' J' ∧ I' 76 6 = nI f ∧ f ≤ n := by
  obtain ⟨f0, f3, f4, f5, f6, ft⟩ := h
  obtain ⟨q, hq⟩ := hq
  rw [f0.c, hp] at hq
  obtain ⟨q6, qn, _⟩ := hq
  exact ⟨f0.trans (q.p hl), q6, qn⟩
def AlQ (I0 : DI) (J0 : DJ) (n a g : Nat) (ts : List TT) (I : DI) (J : DJ) : Prop := FrP I0 J0 I J ∧ match altF (I0 77) n g 41 (skb (I0 77) n a) ts with
  | .inl f => I 76 6 = nI f ∧ f ≤ n
  | .inr q => PaS I0 J0 q.1 (g + 1) q.2 I J ∧ q.1 ≤ n ∧ 2 * q.2.length ≤ q.1 + 1
theorem altF_s {c : Nat → Int32} {n g k a : Nat} {ts : List TT} : altF c n g (k + 1) a ts = match trm c n a with
    | .inl f => .inl f
    | .inr p => if altE c n p.1 then .inr (p.1, ts ++ [(g, p.2)]) else altF c n g k p.1 (ts ++ [(g, p.2)]) := rfl
set_option maxHeartbeats 4000000 in
set_option maxRecDepth 100000 in
theorem lpF_Qy_parseAlternative {C : CT} {l : Launch} {S : ShT} {d : Nat} (hC : OKC C l) (hS : SHP S) (hd : 4 ≤ d) {I0 : DI} {J0 : DJ} {n a g : Nat} {ts0 : List TT} (hn40 : n ≤ 40) (hn : I0 76 1 = nI n) {I : DI} {J : DJ} {f : Nat} {x : Int32} (hp : altF (I0 77) n g 41 (skb (I0 77) n a) ts0 = .inl f) (hfr : FrP I0 J0 I J) (h6 : I 76 6 = nI f) (hf : f ≤ n) : V C l k_Qy_parseAlternative (d, 0, 0) (PW S (AlQ I0 J0 n a g ts0)) 10 [(1, .int x), (0, .ref 76)] [] S I J (0, 0) := by
  refine v_iload_n 0 d_Qy_parseAlternative_10 rfl rfl rfl ?_
  refine v_bipush (v := 40) d_Qy_parseAlternative_11 (by decide) rfl ?_
  refine v_icmp_ge (tgt := 40) d_Qy_parseAlternative_13 (by decide) rfl (fun c1 => ?_) (fun c1 => ?_)
  · refine v_aload_n 1 d_Qy_parseAlternative_40 rfl rfl rfl ?_
    refine v_dup d_Qy_parseAlternative_41 rfl rfl ?_
    refine v_geti d_Qy_parseAlternative_42 fl_Qy_35 (hS.o (by decide) rfl) rfl rfl ?_
    refine v_iconst (v := 1) d_Qy_parseAlternative_45 (by decide) rfl ?_
    refine v_iadd d_Qy_parseAlternative_46 rfl ?_
    refine v_nmi (fun z2 ez2 => ?_)
    refine v_puti d_Qy_parseAlternative_47 fl_Qy_35 (hS.o (by decide) rfl) rfl rfl rfl ?_
    generalize hI3 : u2 I 76 4 z2 = I3
    refine v_vret d_Qy_parseAlternative_50 rfl ?_
    refine ⟨rfl, rfl, by rw [← hI3]; exact hfr.trans (FrP.q 4 _ (by decide)), ?_⟩
    rw [hp]
    exact ⟨by rw [← hI3, u2_n (by decide)]; exact h6, hf⟩
  · refine v_aload_n 1 d_Qy_parseAlternative_16 rfl rfl rfl ?_
    refine v_cVp (as := []) d_Qy_parseAlternative_17 cs_Qy_41 (c_Qy_isFaulty hC hS (d := d - 1) (by omega)) (hS.o (by decide) rfl) (by decide) rfl rfl rfl (by decide) (by omega) rfl ?_
    refine v_if_ne (tgt := 40) d_Qy_parseAlternative_20 (by decide) rfl (fun c4 => ?_) (fun c4 => ?_)
    · refine v_aload_n 1 d_Qy_parseAlternative_40 rfl rfl rfl ?_
      refine v_dup d_Qy_parseAlternative_41 rfl rfl ?_
      refine v_geti d_Qy_parseAlternative_42 fl_Qy_35 (hS.o (by decide) rfl) rfl rfl ?_
      refine v_iconst (v := 1) d_Qy_parseAlternative_45 (by decide) rfl ?_
      refine v_iadd d_Qy_parseAlternative_46 rfl ?_
      refine v_nmi (fun z5 ez5 => ?_)
      refine v_puti d_Qy_parseAlternative_47 fl_Qy_35 (hS.o (by decide) rfl) rfl rfl rfl ?_
      generalize hI6 : u2 I 76 4 z5 = I6
      refine v_vret d_Qy_parseAlternative_50 rfl ?_
      refine ⟨rfl, rfl, by rw [← hI6]; exact hfr.trans (FrP.q 4 _ (by decide)), ?_⟩
      rw [hp]
      exact ⟨by rw [← hI6, u2_n (by decide)]; exact h6, hf⟩
    · exact absurd c4 (by rw [h6]; simp [bI, nI_m1 (show f < 100 by omega)])
theorem bI_f {b : Bool} (h : bI b = 0) : b = false := by cases b; rfl; exact absurd h (by decide)
theorem bI_t {b : Bool} (h : ¬ bI b = 0) : b = true := by cases b; exact absurd rfl h; rfl
set_option maxHeartbeats 4000000 in
set_option maxRecDepth 100000 in
theorem lp_Qy_parseAlternative {C : CT} {l : Launch} {S : ShT} {d : Nat} (hC : OKC C l) (hS : SHP S) (hd : 4 ≤ d) {I0 : DI} {J0 : DJ} {n a g : Nat} {ts0 : List TT} (hn40 : n ≤ 40) (hn : I0 76 1 = nI n) : ∀ (n0 t p : Nat) (ts : List TT) (I : DI) (J : DJ) (x : Int32), x = nI t → t ≤ 40 → 40 < t + n0 → p ≤ n → PaS I0 J0 p g ts I J → (altE (I0 77) n p = true ∨ 2 * ts.length ≤ p) → 2 * ts.length ≤ p + 1 → altF (I0 77) n g 41 (skb (I0 77) n a) ts0 = (if altE (I0 77) n p then .inr (p, ts) else altF (I0 77) n g (40 - t) p ts) → V C l k_Qy_parseAlternative (d, 0, 0) (PW S (AlQ I0 J0 n a g ts0)) 10 [(1, .int x), (0, .ref 76)] [] S I J (0, 0) := by
  intro n0
  induction n0 with
  | zero =>
    intro t p ts I J x h1 h2 h3
    omega
  | succ n0 ih =>
    intro t p ts I J x ex ht hf hpn hPS h2 h3 hr
    have hc : I 77 = I0 77 := hPS.1.c
    have hn1 : I 76 1 = nI n := by rw [hPS.1.n]; exact hn
    have h4 := hPS.2.2.1
    refine v_iload_n 0 d_Qy_parseAlternative_10 rfl rfl rfl ?_
    refine v_bipush (v := 40) d_Qy_parseAlternative_11 (by decide) rfl ?_
    refine v_icmp_ge (tgt := 40) d_Qy_parseAlternative_13 (by decide) rfl (fun c1 => ?_) (fun c1 => ?_)
    · refine v_aload_n 1 d_Qy_parseAlternative_40 rfl rfl rfl ?_
      refine v_dup d_Qy_parseAlternative_41 rfl rfl ?_
      refine v_geti d_Qy_parseAlternative_42 fl_Qy_35 (hS.o (by decide) rfl) rfl rfl ?_
      refine v_iconst (v := 1) d_Qy_parseAlternative_45 (by decide) rfl ?_
      refine v_iadd d_Qy_parseAlternative_46 rfl ?_
      refine v_nmi (fun z2 ez2 => ?_)
      have nz2 : z2 = nI (g + 1) := by rw [ez2, show I 76 4 = nI g from h4, show 1 = nI 1 from rfl]; exact nI_add _ _
      refine v_puti d_Qy_parseAlternative_47 fl_Qy_35 (hS.o (by decide) rfl) rfl rfl rfl ?_
      generalize hI3 : u2 I 76 4 z2 = I3
      refine v_vret d_Qy_parseAlternative_50 rfl ?_
      have ht40 : t = 40 := by rcases Nat.lt_or_ge t 40 with h9 | h9; exact absurd c1 (by rw [ex]; exact nI_ge (b := 40) h9 (by decide)); omega
      have hr2 : altF (I0 77) n g 41 (skb (I0 77) n a) ts0 = .inr (p, ts) := by rw [hr, ht40]; by_cases h9 : altE (I0 77) n p = true; rw [if_pos h9]; rw [if_neg h9]; rfl
      refine ⟨rfl, rfl, by rw [← hI3]; exact hPS.1.trans (FrP.q 4 _ (by decide)), ?_⟩
      rw [hr2]
      obtain ⟨g1, g2, g3, g4, g5, g6⟩ := hPS
      exact ⟨⟨by rw [← hI3]; exact g1.trans (FrP.q 4 _ (by decide)), by rw [← hI3, u2_n (by decide)]; exact g2, by rw [← hI3, u2_s]; exact nz2, by rw [← hI3, u2_n (by decide)]; exact g4, by rw [← hI3, u2_n (by decide)]; exact g5, by rw [← hI3]; exact g6.q 4 _⟩, hpn, h3⟩
    · refine v_aload_n 1 d_Qy_parseAlternative_16 rfl rfl rfl ?_
      refine v_cVp (as := []) d_Qy_parseAlternative_17 cs_Qy_41 (c_Qy_isFaulty hC hS (d := d - 1) (by omega)) (hS.o (by decide) rfl) (by decide) rfl rfl rfl (by decide) (by omega) rfl ?_
      refine v_if_ne (tgt := 40) d_Qy_parseAlternative_20 (by decide) rfl (fun c4 => ?_) (fun c4 => ?_)
      · exact absurd (by rw [hPS.2.2.2.2.1]; simp [bI]) c4
      · refine v_aload_n 1 d_Qy_parseAlternative_23 rfl rfl rfl ?_
        refine v_cVp (as := []) d_Qy_parseAlternative_24 cs_Qy_76 (c_Qy_atAlternativeEnd hC hS (d := d - 1) (n := n) (a := p) hn40 hpn hn1 hPS.2.2.2.1 (by omega)) (hS.o (by decide) rfl) (by decide) rfl rfl rfl (by decide) (by omega) rfl ?_
        refine v_if_ne (tgt := 40) d_Qy_parseAlternative_27 (by decide) rfl (fun c5 => ?_) (fun c5 => ?_)
        · refine v_aload_n 1 d_Qy_parseAlternative_40 rfl rfl rfl ?_
          refine v_dup d_Qy_parseAlternative_41 rfl rfl ?_
          refine v_geti d_Qy_parseAlternative_42 fl_Qy_35 (hS.o (by decide) rfl) rfl rfl ?_
          refine v_iconst (v := 1) d_Qy_parseAlternative_45 (by decide) rfl ?_
          refine v_iadd d_Qy_parseAlternative_46 rfl ?_
          refine v_nmi (fun z6 ez6 => ?_)
          have nz6 : z6 = nI (g + 1) := by rw [ez6, show I 76 4 = nI g from h4, show 1 = nI 1 from rfl]; exact nI_add _ _
          refine v_puti d_Qy_parseAlternative_47 fl_Qy_35 (hS.o (by decide) rfl) rfl rfl rfl ?_
          generalize hI7 : u2 I 76 4 z6 = I7
          refine v_vret d_Qy_parseAlternative_50 rfl ?_
          have hA : altE (I0 77) n p = true := by have h9 := c5; rw [hc] at h9; exact bI_t h9
          have hr2 : altF (I0 77) n g 41 (skb (I0 77) n a) ts0 = .inr (p, ts) := by rw [hr, hA]; rfl
          refine ⟨rfl, rfl, by rw [← hI7]; exact hPS.1.trans (FrP.q 4 _ (by decide)), ?_⟩
          rw [hr2]
          obtain ⟨g1, g2, g3, g4, g5, g6⟩ := hPS
          exact ⟨⟨by rw [← hI7]; exact g1.trans (FrP.q 4 _ (by decide)), by rw [← hI7, u2_n (by decide)]; exact g2, by rw [← hI7, u2_s]; exact nz6, by rw [← hI7, u2_n (by decide)]; exact g4, by rw [← hI7, u2_n (by decide)]; exact g5, by rw [← hI7]; exact g6.q 4 _⟩, hpn, h3⟩
        · have hnA : altE (I0 77) n p = false := by have h9 := c5; rw [hc] at h9; exact bI_f h9
          have h2p : 2 * ts.length ≤ p := by rcases h2 with h9 | h9; rw [hnA] at h9; cases h9; exact h9
          have hl21 : ts.length < 21 := by omega
          have ht40 : t < 40 := by rcases Nat.lt_or_ge t 40 with h9 | h9; exact h9; exact absurd (by rw [ex]; exact nI_le (a := 40) h9 (by omega)) c1
          refine v_aload_n 1 d_Qy_parseAlternative_30 rfl rfl rfl ?_
          refine v_cVw (as := []) d_Qy_parseAlternative_31 cs_Qy_73 (c_Qy_parseTerm hC hS (d := d - 1) (i := ts.length) (n := n) (a := p) (g := g) hl21 hn40 hpn hn1 hPS.2.2.2.1 hPS.2.2.2.2.1 hPS.2.1 hPS.2.2.1 (by omega)) (hS.o (by decide) rfl) (by decide) rfl rfl rfl (by decide) (by omega) rfl (fun I1 J1 hq => ?_)
          obtain ⟨x8, ex8⟩ : ∃ y : Int32, y = x + 1 := ⟨_, rfl⟩
          have nx8 : x8 = nI (t + 1) := by rw [ex8, show x = nI t from ex]; exact nI_1 _
          refine v_iinc (n := 0) (v := x8) (L' := [(1, .int x8), (0, .ref 76)]) d_Qy_parseAlternative_34 rfl (by rw [ex8]; rfl) (by decide) rfl rfl ?_
          refine v_goto (tgt := 10) d_Qy_parseAlternative_37 (by decide) ?_
          rw [hnA, show 40 - t = (40 - (t + 1)) + 1 by omega, if_neg (by decide), altF_s (k := 40 - (t + 1))] at hr
          cases htr : trm (I0 77) n p with
          | inl f =>
            obtain ⟨q1, q2, q3⟩ := hPS.bad hl21 hq htr
            rw [htr] at hr
            exact lpF_Qy_parseAlternative hC hS hd hn40 hn hr q1 q2 q3
          | inr q =>
            have q1 := hPS.ok hl21 hq htr
            rw [htr] at hr
            obtain ⟨l1, l2, l3⟩ := trm_le hpn htr
            exact ih (t + 1) q.1 _ _ _ _ nx8 (by omega) (by omega) l2 q1 (by rcases l3 with h9 | h9; exact Or.inl h9; exact Or.inr (by simp; omega)) (by simp; omega) hr
set_option maxHeartbeats 4000000 in
set_option maxRecDepth 100000 in
theorem c_Qy_parseAlternative {C : CT} {l : Launch} {S : ShT} {I : DI} {J : DJ} {d : Nat} (hC : OKC C l) (hS : SHP S) {n a g : Nat} {ts : List TT} (hn40 : n ≤ 40) (han : a ≤ n) (h2 : 2 * ts.length ≤ a) (hn : I 76 1 = nI n) (ha : I 76 5 = nI a) (hf : I 76 6 = -1) (ht : I 76 3 = nI ts.length) (hg0 : I 76 4 = nI g) (hts : TsH (I 77) ts I J) (hd : 4 ≤ d) : Sp C l k_Qy_parseAlternative y_Qy_parseAlternative (d, 0, 0) [.ref 76] S I J (PW S (AlQ I J n a g ts)) := by
  refine Sp.of hC cd_Qy_parseAlternative (Nat.le_of_ble_eq_true rfl) ?_
  show V C l k_Qy_parseAlternative (d, 0, 0) _ 0 [(0, .ref 76)] [] S I J (0, 0)
  refine v_aload_n 0 d_Qy_parseAlternative_0 rfl rfl rfl ?_
  refine v_cVu (as := []) d_Qy_parseAlternative_1 cs_Qy_70 (c_Qy_skipBlanks hC hS (d := d - 1) (n := n) (a := a) hn40 han hn ha) (hS.o (by decide) rfl) (by decide) rfl rfl rfl (by decide) (by omega) rfl (fun I2 hk => ?_)
  have hpn : skb (I 77) n a ≤ n := (skb_le han).2
  have hap : a ≤ skb (I 77) n a := (skb_le han).1
  have hl21 : ts.length < 21 := by omega
  have hPS : PaS I J (skb (I 77) n a) g ts I2 J := by subst hk; exact ⟨FrP.q 5 _ (by decide), by rw [u2_n (by decide)]; exact ht, by rw [u2_n (by decide)]; exact hg0, u2_s, by rw [u2_n (by decide)]; exact hf, hts.q 5 _⟩
  have hn1 : I2 76 1 = nI n := by rw [hPS.1.n]; exact hn
  refine v_aload_n 0 d_Qy_parseAlternative_4 rfl rfl rfl ?_
  refine v_cVw (as := []) d_Qy_parseAlternative_5 cs_Qy_73 (c_Qy_parseTerm hC hS (d := d - 1) (i := ts.length) (n := n) (a := skb (I 77) n a) (g := g) hl21 hn40 hpn hn1 hPS.2.2.2.1 hPS.2.2.2.2.1 hPS.2.1 hPS.2.2.1 (by omega)) (hS.o (by decide) rfl) (by decide) rfl rfl rfl (by decide) (by omega) rfl (fun I1 J1 hq => ?_)
  refine v_iconst (v := 0) d_Qy_parseAlternative_8 (by decide) rfl ?_
  refine v_istore_n (L' := [(1, .int 0), (0, .ref 76)]) d_Qy_parseAlternative_9 rfl (by decide) rfl rfl ?_
  have hr : altF (I 77) n g 41 (skb (I 77) n a) ts = _ := altF_s (k := 40)
  cases htr : trm (I 77) n (skb (I 77) n a) with
  | inl f =>
    obtain ⟨q1, q2, q3⟩ := hPS.bad hl21 hq htr
    rw [htr] at hr
    exact lpF_Qy_parseAlternative hC hS hd hn40 hn hr q1 q2 q3
  | inr q =>
    have q1 := hPS.ok hl21 hq htr
    rw [htr] at hr
    obtain ⟨l1, l2, l3⟩ := trm_le hpn htr
    exact lp_Qy_parseAlternative hC hS hd hn40 hn 41 0 q.1 _ _ _ _ rfl (by omega) (by omega) l2 q1 (by rcases l3 with h9 | h9; exact Or.inl h9; exact Or.inr (by simp; omega)) (by simp; omega) hr
