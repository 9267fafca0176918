/-! ===== THE MODEL, 10: parse ===== -/
theorem FrK.tr {I0 I I' : DI} {J0 J J' : DJ} {k w : Nat} (h : FrK I0 J0 0 0 I J) (g : FrK I J k w I' J') : FrK I0 J0 0 0 I' J' :=
  ⟨fun b b1 b2 b3 => by rw [g.1 b b1 b2 b3, h.1 b b1 b2 b3], fun j j1 j2 j3 j4 => by rw [g.2.1 j j1 j2 j3 j4, h.2.1 j j1 j2 j3 j4], fun b i b1 b2 hi => by omega, fun i hi => by omega, fun b b1 => by rw [g.2.2.2.2.1 b b1, h.2.2.2.2.1 b b1], fun i hi => by omega⟩
theorem TmM.keep {c : Nat → Int32} {j k w w' : Nat} {t : TT} {I I' : DI} {J J' : DJ} (h : TmM c j w t I J) (g : FrK I J k w I' J') (hj : j < k) (hw : w ≤ w') : TmM c j w' t I' J' := by
  obtain ⟨f, h1, h2, h3, h4, h5, h6, h7⟩ := h
  refine ⟨f, by rw [g.2.2.1 142 j (by decide) (by decide) hj]; exact h1, by omega, by rw [g.2.2.1 139 j (by decide) (by decide) hj]; exact h3, by rw [g.2.2.1 140 j (by decide) (by decide) hj]; exact h4, by rw [g.2.2.1 141 j (by decide) (by decide) hj]; exact h5, by rw [g.2.2.1 143 j (by decide) (by decide) hj]; exact h6, fun i s l hi => ?_⟩
  have hl : i < t.2.2.2.length := (List.getElem?_eq_some_iff.mp hi).1
  rw [g.2.2.2.2.2 _ (by omega), g.2.2.2.1 _ (by omega)]
  exact h7 i s l hi
theorem TmM.q {c : Nat → Int32} {j w : Nat} {t : TT} {I : DI} {J : DJ} (h : TmM c j w t I J) (f : Nat) (x : Int32) : TmM c j w t (u2 I 124 f x) J := by
  unfold TmM WsM at h ⊢
  rw [u2_o (by decide), u2_o (by decide), u2_o (by decide), u2_o (by decide), u2_o (by decide), u2_o (by decide)]
  exact h
def TsM (c : Nat → Int32) (ts : List TT) (w : Nat) (I : DI) (J : DJ) : Prop := ∀ j t, ts[j]? = some t → TmM c j w t I J
theorem TsM.q {c : Nat → Int32} {ts : List TT} {w : Nat} {I : DI} {J : DJ} (h : TsM c ts w I J) (f : Nat) (x : Int32) : TsM c ts w (u2 I 124 f x) J := fun j t hj => (h j t hj).q f x
theorem TsM.add {c : Nat → Int32} {ts : List TT} {w w' : Nat} {I I' : DI} {J J' : DJ} {t : TT} (h : TsM c ts w I J) (g : FrK I J ts.length w I' J') (hw : w ≤ w') (ht : TmM c ts.length w' t I' J') : TsM c (ts ++ [t]) w' I' J' := by
  intro j u hj
  by_cases hl : j < ts.length
  · rw [List.getElem?_append_left hl] at hj
    exact (h j u hj).keep g hl hw
  · rw [List.getElem?_append_right (by omega)] at hj
    have hz : j - ts.length < 1 := (List.getElem?_eq_some_iff.mp hj).1
    rw [show j - ts.length = 0 by omega] at hj
    cases hj
    rw [show j = ts.length by omega]
    exact ht
def PpS (I0 : DI) (J0 : DJ) (n b : Nat) (ts : List TT) (w : Nat) (I : DI) (J : DJ) : Prop := FrK I0 J0 0 0 I J ∧ I 124 29 = -1 ∧ I 124 28 = nI b ∧ b ≤ n ∧ I 124 24 = nI ts.length ∧ I 124 27 = nI w ∧ w ≤ b ∧ ts.length ≤ b ∧ TsM (I0 138) ts w I J
theorem PpS.at {I0 I : DI} {J0 J : DJ} {n b b' : Nat} {ts : List TT} {w : Nat} (h : PpS I0 J0 n b ts w I J) (h1 : b ≤ b') (h2 : b' ≤ n) : PpS I0 J0 n b' ts w (u2 I 124 28 (nI b')) J := by
  obtain ⟨g1, g2, g3, g4, g5, g6, g7, g8, g9⟩ := h
  exact ⟨g1.q 28 _ (by decide), by rw [u2_n (by decide)]; exact g2, u2_s, h2, by rw [u2_n (by decide)]; exact g5, by rw [u2_n (by decide)]; exact g6, by omega, by omega, g9.q _ _⟩
def PrM (I0 : DI) (J0 : DJ) (n : Nat) (x : Int32) (I : DI) (J : DJ) : Prop := FrK I0 J0 0 0 I J ∧ match prsF (I0 138) n 41 0 [] 0 with
  | .inl f => I 124 29 = nI f ∧ f ≤ n
  | .inr q => I 124 29 = -1 ∧ x = nI q.2 ∧ I 124 24 = nI q.1.length ∧ ∃ w, w ≤ 60 ∧ TsM (I0 138) q.1 w I J
def kon (c : Nat → Int32) (n kp g : Nat) (r : Nat ⊕ (Nat × List TT)) : Nat ⊕ (List TT × Nat) := match r with
  | .inl f => .inl f
  | .inr q => if nx c n q.1 = 124 then prsF c n kp (q.1 + 1) q.2 (g + 1) else .inr (q.2, g + 1)
theorem prsF_k {c : Nat → Int32} {n k a g : Nat} {ts : List TT} : prsF c n (k + 1) a ts g = kon c n k g (altF c n g 41 (skb c n a) ts) := by
  rw [prsF_s]
  cases altF c n g 41 (skb c n a) ts <;> rfl
/-- what is still to be parsed, at a behind the blanks; new: no term of this alternative yet -/
def altN (c : Nat → Int32) (n g k a : Nat) (ts : List TT) (sn : Nat) : Nat ⊕ (Nat × List TT) := if sn < ts.length ∧ altE c n a = true then .inr (a, ts) else altF c n g k a ts
theorem trm_end {c : Nat → Int32} {n a : Nat} (h : altE c n a = true) : trm c n a = .inl a := by
  have h1 : nx c n a = 0 ∨ nx c n a = 124 := by simpa [altE] using h
  have h2 : ¬ nx c n a = 45 := by rcases h1 with h1 | h1 <;> rw [h1] <;> decide
  have h3 : ¬ nx c n a = 34 := by rcases h1 with h1 | h1 <;> rw [h1] <;> decide
  have h4 : isLt (nx c n a) = false := by rcases h1 with h1 | h1 <;> rw [h1] <;> decide
  have h5 : lcn c n a 8 = 0 := by rw [lcn_s, if_neg (by rw [h4]; decide)]
  unfold trm trB
  rw [if_neg h2, if_neg h3, h5, if_pos (by unfold badW; rw [h5]; rfl)]
  rfl
theorem altE_nw {c : Nat → Int32} {n a : Nat} (hc : Chr c n) (h : nwM c n a < 0 ∨ nwM c n a = 124) : altE c n a = true := by
  unfold altE
  rcases h with h | h
  · rw [decide_eq_true ((nx_0 hc).mpr ((nw_neg hc).mp h))]; rfl
  · rw [decide_eq_true ((nw_eq).mp h)]; simp
theorem altE_nwF {c : Nat → Int32} {n a : Nat} (hc : Chr c n) (h1 : ¬ nwM c n a < 0) (h2 : ¬ nwM c n a = 124) : altE c n a = false ∧ a < n := by
  have h3 : a < n := by rcases Nat.lt_or_ge a n with h9 | h9; exact h9; exact absurd ((nw_neg (a := a) hc).mpr (by omega)) h1
  refine ⟨?_, h3⟩
  unfold altE
  rw [decide_eq_false (fun h9 => (nx_0 hc).mp h9 h3), decide_eq_false (fun h9 => h2 ((nw_eq).mpr h9))]
  rfl
set_option maxHeartbeats 4000000 in
set_option maxRecDepth 100000 in
theorem lpF_Md_parse {C : CT} {l : Launch} {S : ShT} {d : Nat} (hC : OKC C l) (hS : SHP S) (hd : 4 ≤ d) {I0 : DI} {J0 : DJ} {n : Nat} (hn40 : n ≤ 40) (hc : Chr (I0 138) n) (hn : I0 124 18 = nI n) {I : DI} {J : DJ} {f : Nat} {z1 z2 z3 : Int32} (hp : prsF (I0 138) n 41 0 [] 0 = .inl f) (hfr : FrK I0 J0 0 0 I J) (h29 : I 124 29 = nI f) (hf : f ≤ n) : V C l k_Md_parse (d, 0, 0) (PJ S (PrM I0 J0 n)) 26 [(3, .int z3), (2, .int z2), (1, .int z1), (0, .ref 124)] [] S I J (0, 0) := by
  refine v_iload_n 0 d_Md_parse_26 rfl rfl rfl ?_
  refine v_if_eq (tgt := 117) d_Md_parse_27 (by decide) rfl (fun c1 => ?_) (fun c1 => ?_)
  · refine v_iload_n 2 d_Md_parse_117 rfl rfl rfl ?_
    refine v_iret d_Md_parse_118 rfl ?_
    refine ⟨rfl, _, rfl, hfr, ?_⟩
    rw [hp]
    exact ⟨h29, hf⟩
  · refine v_aload_n 3 d_Md_parse_30 rfl rfl rfl ?_
    refine v_geti d_Md_parse_31 fl_Md_148 (hS.o (by decide) rfl) rfl rfl ?_
    refine v_if_ge (tgt := 117) d_Md_parse_34 (by decide) rfl (fun c2 => ?_) (fun c2 => ?_)
    · refine v_iload_n 2 d_Md_parse_117 rfl rfl rfl ?_
      refine v_iret d_Md_parse_118 rfl ?_
      refine ⟨rfl, _, rfl, hfr, ?_⟩
      rw [hp]
      exact ⟨h29, hf⟩
    · exact absurd (by rw [h29]; exact Int32.not_lt.mp (nI_pos (show f < 2 ^ 31 by omega))) c2
set_option maxHeartbeats 4000000 in
set_option maxRecDepth 100000 in
theorem lpE_Md_parse {C : CT} {l : Launch} {S : ShT} {d : Nat} (hC : OKC C l) (hS : SHP S) (hd : 4 ≤ d) {I0 : DI} {J0 : DJ} {n : Nat} (hn40 : n ≤ 40) (hc : Chr (I0 138) n) (hn : I0 124 18 = nI n) {I : DI} {J : DJ} {g b w : Nat} {ts : List TT} {z1 z2 : Int32} (hp : prsF (I0 138) n 41 0 [] 0 = .inr (ts, g)) (hPS : PpS I0 J0 n b ts w I J) (e1 : z1 = nI g) : V C l k_Md_parse (d, 0, 0) (PJ S (PrM I0 J0 n)) 26 [(3, .int 0), (2, .int z2), (1, .int z1), (0, .ref 124)] [] S I J (0, 0) := by
  refine v_iload_n 0 d_Md_parse_26 rfl rfl rfl ?_
  refine v_if_eq (tgt := 117) d_Md_parse_27 (by decide) rfl (fun c1 => ?_) (fun c1 => ?_)
  · refine v_iload_n 2 d_Md_parse_117 rfl rfl rfl ?_
    refine v_iret d_Md_parse_118 rfl ?_
    refine ⟨rfl, _, rfl, hPS.1, ?_⟩
    rw [hp]
    exact ⟨hPS.2.1, e1, hPS.2.2.2.2.1, w, by have := hPS.2.2.2.2.2.2.1; have := hPS.2.2.2.1; omega, hPS.2.2.2.2.2.2.2.2⟩
  · exact absurd rfl c1
set_option maxHeartbeats 4000000 in
set_option maxRecDepth 100000 in
theorem lp_Md_parse {C : CT} {l : Launch} {S : ShT} {d : Nat} (hC : OKC C l) (hS : SHP S) (hd : 4 ≤ d) {I0 : DI} {J0 : DJ} {n : Nat} (hn40 : n ≤ 40) (hc : Chr (I0 138) n) (hn : I0 124 18 = nI n) : ∀ (n0 b : Nat) (ts : List TT) (w g k kp sn : Nat) (I : DI) (J : DJ) (z1 z2 : Int32), z1 = nI g → z2 = nI sn → n < b + n0 → 41 ≤ k + b → 40 ≤ kp + b → sn ≤ ts.length → PpS I0 J0 n b ts w I J → prsF (I0 138) n 41 0 [] 0 = kon (I0 138) n kp g (altN (I0 138) n g k (skb (I0 138) n b) ts sn) → V C l k_Md_parse (d, 0, 0) (PJ S (PrM I0 J0 n)) 26 [(3, .int 1), (2, .int z2), (1, .int z1), (0, .ref 124)] [] S I J (0, 0) := by
  intro n0
  induction n0 with
  | zero =>
    intro b ts w g k kp sn I J z1 z2 e1 e2 hf hk1 hkp1 hsn hPS
    have := hPS.2.2.2.1
    omega
  | succ n0 ih =>
    intro b ts w g k kp sn I J z1 z2 e1 e2 hf hk1 hkp1 hsn hPS hr
    have hbn := hPS.2.2.2.1
    have htl := hPS.2.2.2.2.2.2.2.1
    refine v_iload_n 0 d_Md_parse_26 rfl rfl rfl ?_
    refine v_if_eq (tgt := 117) d_Md_parse_27 (by decide) rfl (fun c1 => ?_) (fun c1 => ?_)
    · exact absurd c1 (by decide)
    · refine v_aload_n 3 d_Md_parse_30 rfl rfl rfl ?_
      refine v_geti d_Md_parse_31 fl_Md_148 (hS.o (by decide) rfl) rfl rfl ?_
      refine v_if_ge (tgt := 117) d_Md_parse_34 (by decide) rfl (fun c2 => ?_) (fun c2 => ?_)
      · exact absurd c2 (by rw [hPS.2.1]; decide)
      · refine v_aload_n 3 d_Md_parse_37 rfl rfl rfl ?_
        refine v_cVu (as := []) d_Md_parse_38 cs_Md_157 (c_Md_blanks hC hS (d := d - 1) (n := n) (a := b) hn40 hPS.2.2.2.1 (by rw [hPS.1.n]; exact hn) hPS.2.2.1 (by omega)) (hS.o (by decide) rfl) (by decide) rfl rfl rfl (by decide) (by omega) rfl (fun I2 hk => ?_)
        rw [hPS.1.c] at hk
        obtain ⟨a, hae⟩ : ∃ a, a = skb (I0 138) n b := ⟨_, rfl⟩
        have hab : b ≤ a ∧ a ≤ n := by rw [hae]; exact skb_le hPS.2.2.2.1
        have hP1 := hPS.at hab.1 hab.2
        rw [hae, ← hk, ← hae] at hP1
        rw [← hae] at hr
        have s138 : I2 138 = I0 138 := hP1.1.c
        have s18 : I2 124 18 = nI n := by rw [hP1.1.n]; exact hn
        have s28 := hP1.2.2.1
        have s24 := hP1.2.2.2.2.1
        refine v_aload_n 3 d_Md_parse_41 rfl rfl rfl ?_
        refine v_cVp (as := []) d_Md_parse_42 cs_Md_144 (c_Md_now hC hS (d := d - 1) (n := n) (a := a) hn40 hab.2 s18 hP1.2.2.1 (by omega)) (hS.o (by decide) rfl) (by decide) rfl rfl rfl (by decide) (by omega) rfl ?_
        refine v_if_lt (tgt := 65) d_Md_parse_45 (by decide) rfl (fun c3 => ?_) (fun c3 => ?_)
        · have hE := altE_nw hc (Or.inl (by rw [← s138]; exact c3))
          refine v_aload_n 3 d_Md_parse_65 rfl rfl rfl ?_
          refine v_geti d_Md_parse_66 fl_Md_163 (hS.o (by decide) rfl) rfl rfl ?_
          refine v_iload_n 1 d_Md_parse_69 rfl rfl rfl ?_
          refine v_icmp_ne (tgt := 77) d_Md_parse_70 (by decide) rfl (fun c4 => ?_) (fun c4 => ?_)
          · have hsl : sn < ts.length := by rcases Nat.lt_or_ge sn ts.length with h9 | h9; exact h9; exact absurd (by rw [s24, e2, show ts.length = sn by omega]) c4
            have hR : prsF (I0 138) n 41 0 [] 0 = if nx (I0 138) n a = 124 then prsF (I0 138) n kp (a + 1) ts (g + 1) else .inr (ts, g + 1) := by rw [hr, altN, if_pos ⟨hsl, hE⟩]; rfl
            refine v_aload_n 3 d_Md_parse_77 rfl rfl rfl ?_
            refine v_geti d_Md_parse_78 fl_Md_163 (hS.o (by decide) rfl) rfl rfl ?_
            refine v_istore_n (L' := [(2, .int (I2 124 24)), (3, .int 1), (1, .int z1), (0, .ref 124)]) d_Md_parse_81 rfl (by decide) rfl rfl ?_
            obtain ⟨x5, ex5⟩ : ∃ y : Int32, y = z1 + 1 := ⟨_, rfl⟩
            have nx5 : x5 = nI (g + 1) := by rw [ex5, show z1 = nI g from e1]; exact nI_1 _
            refine v_iinc (n := 2) (v := x5) (L' := [(1, .int x5), (2, .int (I2 124 24)), (3, .int 1), (0, .ref 124)]) d_Md_parse_82 rfl (by rw [ex5]; rfl) (by decide) rfl rfl ?_
            refine v_aload_n 3 d_Md_parse_85 rfl rfl rfl ?_
            refine v_cVp (as := []) d_Md_parse_86 cs_Md_144 (c_Md_now hC hS (d := d - 1) (n := n) (a := a) hn40 hab.2 s18 hP1.2.2.1 (by omega)) (hS.o (by decide) rfl) (by decide) rfl rfl rfl (by decide) (by omega) rfl ?_
            refine v_bipush (v := 124) d_Md_parse_89 (by decide) rfl ?_
            refine v_icmp_ne (tgt := 98) d_Md_parse_91 (by decide) rfl (fun c6 => ?_) (fun c6 => ?_)
            · refine v_iconst (v := 0) d_Md_parse_98 (by decide) rfl ?_
              refine v_istore_n (L' := [(3, .int 0), (1, .int x5), (2, .int (I2 124 24)), (0, .ref 124)]) d_Md_parse_99 rfl (by decide) rfl rfl ?_
              refine v_iload_n 0 d_Md_parse_100 rfl rfl rfl ?_
              refine v_if_eq (tgt := 26) d_Md_parse_101 (by decide) rfl (fun c7 => ?_) (fun c7 => ?_)
              · refine v_sub (L' := [(3, .int 0), (2, .int (I2 124 24)), (1, .int x5), (0, .ref 124)]) [0, 2, 1, 3] rfl ?_
                have hb : ¬ nx (I0 138) n a = 124 := fun h9 => c6 (by rw [s138]; exact (nw_eq).mpr h9)
                rw [if_neg hb] at hR
                exact lpE_Md_parse hC hS hd hn40 hc hn hR hP1 nx5
              · exact absurd rfl c7
            · refine v_iconst (v := 1) d_Md_parse_94 (by decide) rfl ?_
              refine v_goto (tgt := 99) d_Md_parse_95 (by decide) ?_
              refine v_istore_n (L' := [(3, .int 1), (1, .int x5), (2, .int (I2 124 24)), (0, .ref 124)]) d_Md_parse_99 rfl (by decide) rfl rfl ?_
              refine v_iload_n 0 d_Md_parse_100 rfl rfl rfl ?_
              refine v_if_eq (tgt := 26) d_Md_parse_101 (by decide) rfl (fun c8 => ?_) (fun c8 => ?_)
              · exact absurd c8 (by decide)
              · refine v_aload_n 3 d_Md_parse_104 rfl rfl rfl ?_
                refine v_dup d_Md_parse_105 rfl rfl ?_
                refine v_geti d_Md_parse_106 fl_Md_141 (hS.o (by decide) rfl) rfl rfl ?_
                refine v_iconst (v := 1) d_Md_parse_109 (by decide) rfl ?_
                refine v_iadd d_Md_parse_110 rfl ?_
                refine v_nmi (fun z9 ez9 => ?_)
                have nz9 : z9 = nI (a + 1) := by rw [ez9, show I2 124 28 = nI a from s28, show 1 = nI 1 from rfl]; exact nI_add _ _
                refine v_puti d_Md_parse_111 fl_Md_141 (hS.o (by decide) rfl) rfl rfl rfl ?_
                generalize hI10 : u2 I2 124 28 z9 = I10
                refine v_goto (tgt := 26) d_Md_parse_114 (by decide) ?_
                refine v_sub (L' := [(3, .int 1), (2, .int (I2 124 24)), (1, .int x5), (0, .ref 124)]) [0, 2, 1, 3] rfl ?_
                have hb : nx (I0 138) n a = 124 := (nw_eq).mp (by rw [← s138]; exact c6)
                obtain ⟨kp9, hkp9⟩ : ∃ kp9, kp = kp9 + 1 := ⟨kp - 1, by have := isQ_lt hb; omega⟩
                rw [if_pos hb, hkp9, prsF_k (k := kp9) (a := a + 1)] at hR
                have hP2 := hP1.at (b' := a + 1) (by omega) (isQ_lt hb)
                rw [← nz9, hI10] at hP2
                exact ih (a + 1) ts w (g + 1) 41 kp9 ts.length _ _ _ _ nx5 s24 (by omega) (by omega) (by omega) (Nat.le_refl _) hP2 (by rw [hR, altN, if_neg (by omega)])
          · have hts : ts.length = sn := (nI_eq (by omega) (by omega)).mp (by rw [← s24, ← e2]; exact c4)
            obtain ⟨k9, hk9⟩ : ∃ k9, k = k9 + 1 := ⟨k - 1, by omega⟩
            have hR : prsF (I0 138) n 41 0 [] 0 = .inl a := by rw [hr, altN, if_neg (by omega), hk9, altF_s, trm_end hE]; rfl
            refine v_aload_n 3 d_Md_parse_73 rfl rfl rfl ?_
            refine v_cVu (as := []) d_Md_parse_74 cs_Md_151 (c_Md_blame hC hS (d := d - 1) (by omega)) (hS.o (by decide) rfl) (by decide) rfl rfl rfl (by decide) (by omega) rfl (fun Ib hbl => ?_)
            rw [if_pos (by rw [hP1.2.1]; decide)] at hbl
            have v18 : Ib 124 18 = nI n := by rw [hbl, u2_n (by decide)]; exact s18
            have v28 : Ib 124 28 = nI a := by rw [hbl, u2_n (by decide)]; exact s28
            have v29 : Ib 124 29 = nI a := by rw [hbl, u2_s]; exact s28
            have vfr : FrK I0 J0 0 0 Ib J := by rw [hbl]; exact hP1.1.q 29 _ (by decide)
            refine v_aload_n 3 d_Md_parse_77 rfl rfl rfl ?_
            refine v_geti d_Md_parse_78 fl_Md_163 (hS.o (by decide) rfl) rfl rfl ?_
            refine v_istore_n (L' := [(2, .int (Ib 124 24)), (3, .int 1), (1, .int z1), (0, .ref 124)]) d_Md_parse_81 rfl (by decide) rfl rfl ?_
            obtain ⟨x11, ex11⟩ : ∃ y : Int32, y = z1 + 1 := ⟨_, rfl⟩
            have nx11 : x11 = nI (g + 1) := by rw [ex11, show z1 = nI g from e1]; exact nI_1 _
            refine v_iinc (n := 2) (v := x11) (L' := [(1, .int x11), (2, .int (Ib 124 24)), (3, .int 1), (0, .ref 124)]) d_Md_parse_82 rfl (by rw [ex11]; rfl) (by decide) rfl rfl ?_
            refine v_aload_n 3 d_Md_parse_85 rfl rfl rfl ?_
            refine v_cVp (as := []) d_Md_parse_86 cs_Md_144 (c_Md_now hC hS (d := d - 1) (n := n) (a := a) hn40 hab.2 v18 v28 (by omega)) (hS.o (by decide) rfl) (by decide) rfl rfl rfl (by decide) (by omega) rfl ?_
            refine v_bipush (v := 124) d_Md_parse_89 (by decide) rfl ?_
            refine v_icmp_ne (tgt := 98) d_Md_parse_91 (by decide) rfl (fun c12 => ?_) (fun c12 => ?_)
            · refine v_iconst (v := 0) d_Md_parse_98 (by decide) rfl ?_
              refine v_istore_n (L' := [(3, .int 0), (1, .int x11), (2, .int (Ib 124 24)), (0, .ref 124)]) d_Md_parse_99 rfl (by decide) rfl rfl ?_
              refine v_iload_n 0 d_Md_parse_100 rfl rfl rfl ?_
              refine v_if_eq (tgt := 26) d_Md_parse_101 (by decide) rfl (fun c13 => ?_) (fun c13 => ?_)
              · refine v_sub (L' := [(3, .int 0), (2, .int (Ib 124 24)), (1, .int x11), (0, .ref 124)]) [0, 2, 1, 3] rfl ?_
                exact lpF_Md_parse hC hS hd hn40 hc hn hR vfr v29 hab.2
              · exact absurd rfl c13
            · refine v_iconst (v := 1) d_Md_parse_94 (by decide) rfl ?_
              refine v_goto (tgt := 99) d_Md_parse_95 (by decide) ?_
              refine v_istore_n (L' := [(3, .int 1), (1, .int x11), (2, .int (Ib 124 24)), (0, .ref 124)]) d_Md_parse_99 rfl (by decide) rfl rfl ?_
              refine v_iload_n 0 d_Md_parse_100 rfl rfl rfl ?_
              refine v_if_eq (tgt := 26) d_Md_parse_101 (by decide) rfl (fun c14 => ?_) (fun c14 => ?_)
              · exact absurd c14 (by decide)
              · refine v_aload_n 3 d_Md_parse_104 rfl rfl rfl ?_
                refine v_dup d_Md_parse_105 rfl rfl ?_
                refine v_geti d_Md_parse_106 fl_Md_141 (hS.o (by decide) rfl) rfl rfl ?_
                refine v_iconst (v := 1) d_Md_parse_109 (by decide) rfl ?_
                refine v_iadd d_Md_parse_110 rfl ?_
                refine v_nmi (fun z15 ez15 => ?_)
                have nz15 : z15 = nI (a + 1) := by rw [ez15, show Ib 124 28 = nI a from v28, show 1 = nI 1 from rfl]; exact nI_add _ _
                refine v_puti d_Md_parse_111 fl_Md_141 (hS.o (by decide) rfl) rfl rfl rfl ?_
                generalize hI16 : u2 Ib 124 28 z15 = I16
                refine v_goto (tgt := 26) d_Md_parse_114 (by decide) ?_
                refine v_sub (L' := [(3, .int 1), (2, .int (Ib 124 24)), (1, .int x11), (0, .ref 124)]) [0, 2, 1, 3] rfl ?_
                exact lpF_Md_parse hC hS hd hn40 hc hn hR (by rw [← hI16]; exact vfr.q 28 _ (by decide)) (by rw [← hI16, u2_n (by decide)]; exact v29) hab.2
        · refine v_aload_n 3 d_Md_parse_48 rfl rfl rfl ?_
          refine v_cVp (as := []) d_Md_parse_49 cs_Md_144 (c_Md_now hC hS (d := d - 1) (n := n) (a := a) hn40 hab.2 s18 hP1.2.2.1 (by omega)) (hS.o (by decide) rfl) (by decide) rfl rfl rfl (by decide) (by omega) rfl ?_
          refine v_bipush (v := 124) d_Md_parse_52 (by decide) rfl ?_
          refine v_icmp_eq (tgt := 65) d_Md_parse_54 (by decide) rfl (fun c17 => ?_) (fun c17 => ?_)
          · have hE := altE_nw hc (Or.inr (by rw [← s138]; exact c17))
            refine v_aload_n 3 d_Md_parse_65 rfl rfl rfl ?_
            refine v_geti d_Md_parse_66 fl_Md_163 (hS.o (by decide) rfl) rfl rfl ?_
            refine v_iload_n 1 d_Md_parse_69 rfl rfl rfl ?_
            refine v_icmp_ne (tgt := 77) d_Md_parse_70 (by decide) rfl (fun c18 => ?_) (fun c18 => ?_)
            · have hsl : sn < ts.length := by rcases Nat.lt_or_ge sn ts.length with h9 | h9; exact h9; exact absurd (by rw [s24, e2, show ts.length = sn by omega]) c18
              have hR : prsF (I0 138) n 41 0 [] 0 = if nx (I0 138) n a = 124 then prsF (I0 138) n kp (a + 1) ts (g + 1) else .inr (ts, g + 1) := by rw [hr, altN, if_pos ⟨hsl, hE⟩]; rfl
              refine v_aload_n 3 d_Md_parse_77 rfl rfl rfl ?_
              refine v_geti d_Md_parse_78 fl_Md_163 (hS.o (by decide) rfl) rfl rfl ?_
              refine v_istore_n (L' := [(2, .int (I2 124 24)), (3, .int 1), (1, .int z1), (0, .ref 124)]) d_Md_parse_81 rfl (by decide) rfl rfl ?_
              obtain ⟨x19, ex19⟩ : ∃ y : Int32, y = z1 + 1 := ⟨_, rfl⟩
              have nx19 : x19 = nI (g + 1) := by rw [ex19, show z1 = nI g from e1]; exact nI_1 _
              refine v_iinc (n := 2) (v := x19) (L' := [(1, .int x19), (2, .int (I2 124 24)), (3, .int 1), (0, .ref 124)]) d_Md_parse_82 rfl (by rw [ex19]; rfl) (by decide) rfl rfl ?_
              refine v_aload_n 3 d_Md_parse_85 rfl rfl rfl ?_
              refine v_cVp (as := []) d_Md_parse_86 cs_Md_144 (c_Md_now hC hS (d := d - 1) (n := n) (a := a) hn40 hab.2 s18 hP1.2.2.1 (by omega)) (hS.o (by decide) rfl) (by decide) rfl rfl rfl (by decide) (by omega) rfl ?_
              refine v_bipush (v := 124) d_Md_parse_89 (by decide) rfl ?_
              refine v_icmp_ne (tgt := 98) d_Md_parse_91 (by decide) rfl (fun c20 => ?_) (fun c20 => ?_)
              · refine v_iconst (v := 0) d_Md_parse_98 (by decide) rfl ?_
                refine v_istore_n (L' := [(3, .int 0), (1, .int x19), (2, .int (I2 124 24)), (0, .ref 124)]) d_Md_parse_99 rfl (by decide) rfl rfl ?_
                refine v_iload_n 0 d_Md_parse_100 rfl rfl rfl ?_
                refine v_if_eq (tgt := 26) d_Md_parse_101 (by decide) rfl (fun c21 => ?_) (fun c21 => ?_)
                · refine v_sub (L' := [(3, .int 0), (2, .int (I2 124 24)), (1, .int x19), (0, .ref 124)]) [0, 2, 1, 3] rfl ?_
                  have hb : ¬ nx (I0 138) n a = 124 := fun h9 => c20 (by rw [s138]; exact (nw_eq).mpr h9)
                  rw [if_neg hb] at hR
                  exact lpE_Md_parse hC hS hd hn40 hc hn hR hP1 nx19
                · exact absurd rfl c21
              · refine v_iconst (v := 1) d_Md_parse_94 (by decide) rfl ?_
                refine v_goto (tgt := 99) d_Md_parse_95 (by decide) ?_
                refine v_istore_n (L' := [(3, .int 1), (1, .int x19), (2, .int (I2 124 24)), (0, .ref 124)]) d_Md_parse_99 rfl (by decide) rfl rfl ?_
                refine v_iload_n 0 d_Md_parse_100 rfl rfl rfl ?_
                refine v_if_eq (tgt := 26) d_Md_parse_101 (by decide) rfl (fun c22 => ?_) (fun c22 => ?_)
                · exact absurd c22 (by decide)
                · refine v_aload_n 3 d_Md_parse_104 rfl rfl rfl ?_
                  refine v_dup d_Md_parse_105 rfl rfl ?_
                  refine v_geti d_Md_parse_106 fl_Md_141 (hS.o (by decide) rfl) rfl rfl ?_
                  refine v_iconst (v := 1) d_Md_parse_109 (by decide) rfl ?_
                  refine v_iadd d_Md_parse_110 rfl ?_
                  refine v_nmi (fun z23 ez23 => ?_)
                  have nz23 : z23 = nI (a + 1) := by rw [ez23, show I2 124 28 = nI a from s28, show 1 = nI 1 from rfl]; exact nI_add _ _
                  refine v_puti d_Md_parse_111 fl_Md_141 (hS.o (by decide) rfl) rfl rfl rfl ?_
                  generalize hI24 : u2 I2 124 28 z23 = I24
                  refine v_goto (tgt := 26) d_Md_parse_114 (by decide) ?_
                  refine v_sub (L' := [(3, .int 1), (2, .int (I2 124 24)), (1, .int x19), (0, .ref 124)]) [0, 2, 1, 3] rfl ?_
                  have hb : nx (I0 138) n a = 124 := (nw_eq).mp (by rw [← s138]; exact c20)
                  obtain ⟨kp9, hkp9⟩ : ∃ kp9, kp = kp9 + 1 := ⟨kp - 1, by have := isQ_lt hb; omega⟩
                  rw [if_pos hb, hkp9, prsF_k (k := kp9) (a := a + 1)] at hR
                  have hP2 := hP1.at (b' := a + 1) (by omega) (isQ_lt hb)
                  rw [← nz23, hI24] at hP2
                  exact ih (a + 1) ts w (g + 1) 41 kp9 ts.length _ _ _ _ nx19 s24 (by omega) (by omega) (by omega) (Nat.le_refl _) hP2 (by rw [hR, altN, if_neg (by omega)])
            · have hts : ts.length = sn := (nI_eq (by omega) (by omega)).mp (by rw [← s24, ← e2]; exact c18)
              obtain ⟨k9, hk9⟩ : ∃ k9, k = k9 + 1 := ⟨k - 1, by omega⟩
              have hR : prsF (I0 138) n 41 0 [] 0 = .inl a := by rw [hr, altN, if_neg (by omega), hk9, altF_s, trm_end hE]; rfl
              refine v_aload_n 3 d_Md_parse_73 rfl rfl rfl ?_
              refine v_cVu (as := []) d_Md_parse_74 cs_Md_151 (c_Md_blame hC hS (d := d - 1) (by omega)) (hS.o (by decide) rfl) (by decide) rfl rfl rfl (by decide) (by omega) rfl (fun Ib hbl => ?_)
              rw [if_pos (by rw [hP1.2.1]; decide)] at hbl
              have v18 : Ib 124 18 = nI n := by rw [hbl, u2_n (by decide)]; exact s18
              have v28 : Ib 124 28 = nI a := by rw [hbl, u2_n (by decide)]; exact s28
              have v29 : Ib 124 29 = nI a := by rw [hbl, u2_s]; exact s28
              have vfr : FrK I0 J0 0 0 Ib J := by rw [hbl]; exact hP1.1.q 29 _ (by decide)
              refine v_aload_n 3 d_Md_parse_77 rfl rfl rfl ?_
              refine v_geti d_Md_parse_78 fl_Md_163 (hS.o (by decide) rfl) rfl rfl ?_
              refine v_istore_n (L' := [(2, .int (Ib 124 24)), (3, .int 1), (1, .int z1), (0, .ref 124)]) d_Md_parse_81 rfl (by decide) rfl rfl ?_
              obtain ⟨x25, ex25⟩ : ∃ y : Int32, y = z1 + 1 := ⟨_, rfl⟩
              have nx25 : x25 = nI (g + 1) := by rw [ex25, show z1 = nI g from e1]; exact nI_1 _
              refine v_iinc (n := 2) (v := x25) (L' := [(1, .int x25), (2, .int (Ib 124 24)), (3, .int 1), (0, .ref 124)]) d_Md_parse_82 rfl (by rw [ex25]; rfl) (by decide) rfl rfl ?_
              refine v_aload_n 3 d_Md_parse_85 rfl rfl rfl ?_
              refine v_cVp (as := []) d_Md_parse_86 cs_Md_144 (c_Md_now hC hS (d := d - 1) (n := n) (a := a) hn40 hab.2 v18 v28 (by omega)) (hS.o (by decide) rfl) (by decide) rfl rfl rfl (by decide) (by omega) rfl ?_
              refine v_bipush (v := 124) d_Md_parse_89 (by decide) rfl ?_
              refine v_icmp_ne (tgt := 98) d_Md_parse_91 (by decide) rfl (fun c26 => ?_) (fun c26 => ?_)
              · refine v_iconst (v := 0) d_Md_parse_98 (by decide) rfl ?_
                refine v_istore_n (L' := [(3, .int 0), (1, .int x25), (2, .int (Ib 124 24)), (0, .ref 124)]) d_Md_parse_99 rfl (by decide) rfl rfl ?_
                refine v_iload_n 0 d_Md_parse_100 rfl rfl rfl ?_
                refine v_if_eq (tgt := 26) d_Md_parse_101 (by decide) rfl (fun c27 => ?_) (fun c27 => ?_)
                · refine v_sub (L' := [(3, .int 0), (2, .int (Ib 124 24)), (1, .int x25), (0, .ref 124)]) [0, 2, 1, 3] rfl ?_
                  exact lpF_Md_parse hC hS hd hn40 hc hn hR vfr v29 hab.2
                · exact absurd rfl c27
              · refine v_iconst (v := 1) d_Md_parse_94 (by decide) rfl ?_
                refine v_goto (tgt := 99) d_Md_parse_95 (by decide) ?_
                refine v_istore_n (L' := [(3, .int 1), (1, .int x25), (2, .int (Ib 124 24)), (0, .ref 124)]) d_Md_parse_99 rfl (by decide) rfl rfl ?_
                refine v_iload_n 0 d_Md_parse_100 rfl rfl rfl ?_
                refine v_if_eq (tgt := 26) d_Md_parse_101 (by decide) rfl (fun c28 => ?_) (fun c28 => ?_)
                · exact absurd c28 (by decide)
                · refine v_aload_n 3 d_Md_parse_104 rfl rfl rfl ?_
                  refine v_dup d_Md_parse_105 rfl rfl ?_
                  refine v_geti d_Md_parse_106 fl_Md_141 (hS.o (by decide) rfl) rfl rfl ?_
                  refine v_iconst (v := 1) d_Md_parse_109 (by decide) rfl ?_
                  refine v_iadd d_Md_parse_110 rfl ?_
                  refine v_nmi (fun z29 ez29 => ?_)
                  have nz29 : z29 = nI (a + 1) := by rw [ez29, show Ib 124 28 = nI a from v28, show 1 = nI 1 from rfl]; exact nI_add _ _
                  refine v_puti d_Md_parse_111 fl_Md_141 (hS.o (by decide) rfl) rfl rfl rfl ?_
                  generalize hI30 : u2 Ib 124 28 z29 = I30
                  refine v_goto (tgt := 26) d_Md_parse_114 (by decide) ?_
                  refine v_sub (L' := [(3, .int 1), (2, .int (Ib 124 24)), (1, .int x25), (0, .ref 124)]) [0, 2, 1, 3] rfl ?_
                  exact lpF_Md_parse hC hS hd hn40 hc hn hR (by rw [← hI30]; exact vfr.q 28 _ (by decide)) (by rw [← hI30, u2_n (by decide)]; exact v29) hab.2
          · have hE := altE_nwF hc (by rw [← s138]; exact c3) (by rw [← s138]; exact c17)
            refine v_aload_n 3 d_Md_parse_57 rfl rfl rfl ?_
            refine v_iload_n 2 d_Md_parse_58 rfl rfl rfl ?_
            refine v_cVw (as := [.int z1]) d_Md_parse_59 cs_Md_169 (c_Md_takeTerm hC hS (d := d - 1) (n := n) (k := ts.length) (w := w) (a := a) (g := g) hn40 hE.2 (by have := hP1.2.2.2.2.2.2.2.1; have := hE.2; omega) (by rw [s138]; exact hc) s18 hP1.2.2.1 hP1.2.2.2.2.1 hP1.2.2.2.2.2.1 hP1.2.2.2.2.2.2.1 hP1.2.1 e1 (by omega)) (hS.o (by decide) rfl) (by decide) rfl rfl rfl (by decide) (by omega) rfl (fun I3 J3 hq => ?_)
            refine v_goto (tgt := 26) d_Md_parse_62 (by decide) ?_
            obtain ⟨k9, hk9⟩ : ∃ k9, k = k9 + 1 := ⟨k - 1, by omega⟩
            rw [altN, if_neg (by rw [hE.1]; simp), hk9, altF_s] at hr
            obtain ⟨q0, hq⟩ := hq
            rw [s138] at hq
            rcases htr : trm (I0 138) n a with f | p
            · rw [htr] at hq hr
              exact lpF_Md_parse hC hS hd hn40 hc hn hr (hP1.1.tr q0) hq.1 hq.2
            · rw [htr] at hq hr
              obtain ⟨b1, q1, q2, q3, q4, q5, q6, q7, q8, q9⟩ := hq
              refine ih b1 (ts ++ [(g, p.2)]) (w + p.2.2.2.length) g k9 kp sn _ _ _ _ e1 e2 (by omega) (by omega) (by omega) (by simp; omega) ⟨hP1.1.tr q0, q1, q2, q3, by rw [q6]; simp, q7, q8, by have := hP1.2.2.2.2.2.2.2.1; simp; omega, hP1.2.2.2.2.2.2.2.2.add q0 (by omega) q9⟩ ?_
              rw [hr, altN, q5]
              by_cases h9 : altE (I0 138) n p.1 = true
              · rw [if_pos ⟨by simp; omega, h9⟩]; simp only [h9, if_true]
              · rw [if_neg (fun h8 => h9 h8.2)]; simp only [h9]; rfl
set_option maxHeartbeats 4000000 in
set_option maxRecDepth 100000 in
theorem c_Md_parse {C : CT} {l : Launch} {S : ShT} {I : DI} {J : DJ} {d : Nat} (hC : OKC C l) (hS : SHP S) {n : Nat} (hn40 : n ≤ 40) (hc : Chr (I 138) n) (hn : I 124 18 = nI n) (hd : 4 ≤ d) : Sp C l k_Md_parse y_Md_parse (d, 0, 0) [.ref 124] S I J (PJ S (PrM I J n)) := by
  refine Sp.of hC cd_Md_parse (Nat.le_of_ble_eq_true rfl) ?_
  show V C l k_Md_parse (d, 0, 0) _ 0 [(0, .ref 124)] [] S I J (0, 0)
  refine v_aload_n 0 d_Md_parse_0 rfl rfl rfl ?_
  refine v_iconst (v := 0) d_Md_parse_1 (by decide) rfl ?_
  refine v_puti d_Md_parse_2 fl_Md_163 (hS.o (by decide) rfl) rfl rfl rfl ?_
  generalize hI1 : u2 I 124 24 0 = I1
  refine v_aload_n 0 d_Md_parse_5 rfl rfl rfl ?_
  refine v_iconst (v := 0) d_Md_parse_6 (by decide) rfl ?_
  refine v_puti d_Md_parse_7 fl_Md_154 (hS.o (by decide) rfl) rfl rfl rfl ?_
  generalize hI2 : u2 I1 124 27 0 = I2
  refine v_aload_n 0 d_Md_parse_10 rfl rfl rfl ?_
  refine v_iconst (v := 0) d_Md_parse_11 (by decide) rfl ?_
  refine v_puti d_Md_parse_12 fl_Md_141 (hS.o (by decide) rfl) rfl rfl rfl ?_
  generalize hI3 : u2 I2 124 28 0 = I3
  refine v_aload_n 0 d_Md_parse_15 rfl rfl rfl ?_
  refine v_iconst (v := (-1)) d_Md_parse_16 (by decide) rfl ?_
  refine v_puti d_Md_parse_17 fl_Md_148 (hS.o (by decide) rfl) rfl rfl rfl ?_
  generalize hI4 : u2 I3 124 29 (-1) = I4
  refine v_iconst (v := 0) d_Md_parse_20 (by decide) rfl ?_
  refine v_istore_n (L' := [(1, .int 0), (0, .ref 124)]) d_Md_parse_21 rfl (by decide) rfl rfl ?_
  refine v_iconst (v := 0) d_Md_parse_22 (by decide) rfl ?_
  refine v_istore_n (L' := [(2, .int 0), (1, .int 0), (0, .ref 124)]) d_Md_parse_23 rfl (by decide) rfl rfl ?_
  refine v_iconst (v := 1) d_Md_parse_24 (by decide) rfl ?_
  refine v_istore_n (L' := [(3, .int 1), (2, .int 0), (1, .int 0), (0, .ref 124)]) d_Md_parse_25 rfl (by decide) rfl rfl ?_
  have hP0 : PpS I J n 0 [] 0 I4 J := by subst hI1 hI2 hI3 hI4; exact ⟨(((FrK.rf.q 24 _ (by decide)).q 27 _ (by decide)).q 28 _ (by decide)).q 29 _ (by decide), u2_s, by rw [u2_n (by decide), u2_s]; rfl, Nat.zero_le _, by rw [u2_n (by decide), u2_n (by decide), u2_n (by decide), u2_s]; rfl, by rw [u2_n (by decide), u2_n (by decide), u2_s]; rfl, Nat.le_refl _, Nat.le_refl _, fun j t hj => by simp at hj⟩
  exact lp_Md_parse hC hS hd hn40 hc hn (n + 1) 0 [] 0 0 41 40 0 _ _ _ _ rfl rfl (by omega) (by omega) (by omega) (by simp) hP0 (by rw [altN, if_neg (by simp)]; exact prsF_k)
