/-! ===== THE MODEL, 9: terms ===== -/
def FrK (I0 : DI) (J0 : DJ) (k w : Nat) (I : DI) (J : DJ) : Prop := (∀ b, b ≠ 124 → (b < 139 ∨ 143 < b) → b ≠ 145 → I b = I0 b) ∧ (∀ j, j ≠ 24 → j ≠ 27 → j ≠ 28 → j ≠ 29 → I 124 j = I0 124 j) ∧ (∀ b i, 139 ≤ b → b ≤ 143 → i < k → I b i = I0 b i) ∧ (∀ i, i < w → I 145 i = I0 145 i) ∧ (∀ b, b ≠ 144 → J b = J0 b) ∧ ∀ i, i < w → J 144 i = J0 144 i
theorem FrK.rf {I : DI} {J : DJ} {k w : Nat} : FrK I J k w I J := ⟨fun _ _ _ _ => rfl, fun _ _ _ _ _ => rfl, fun _ _ _ _ _ => rfl, fun _ _ => rfl, fun _ _ => rfl, fun _ _ => rfl⟩
theorem FrK.q {I0 I : DI} {J0 J : DJ} {k w : Nat} (h : FrK I0 J0 k w I J) (f : Nat) (x : Int32) (hf : f = 24 ∨ f = 27 ∨ f = 28 ∨ f = 29) : FrK I0 J0 k w (u2 I 124 f x) J :=
  ⟨fun b b1 b2 b3 => by rw [u2_o b1, h.1 b b1 b2 b3], fun j j1 j2 j3 j4 => by rw [u2_n (Or.inr (by omega)), h.2.1 j j1 j2 j3 j4], fun b i b1 b2 hi => by rw [u2_o (by omega), h.2.2.1 b i b1 b2 hi], fun i hi => by rw [u2_o (by decide), h.2.2.2.1 i hi], h.2.2.2.2.1, h.2.2.2.2.2⟩
theorem FrK.t {I0 I : DI} {J0 J : DJ} {k w : Nat} (h : FrK I0 J0 k w I J) (a : Nat) (x : Int32) (h1 : 139 ≤ a) (h2 : a ≤ 143) : FrK I0 J0 k w (u2 I a k x) J :=
  ⟨fun b b1 b2 b3 => by rw [u2_o (by omega), h.1 b b1 b2 b3], fun j j1 j2 j3 j4 => by rw [u2_o (by omega), h.2.1 j j1 j2 j3 j4], fun b i b1 b2 hi => by rw [u2_n (Or.inr (by omega)), h.2.2.1 b i b1 b2 hi], fun i hi => by rw [u2_o (by omega), h.2.2.2.1 i hi], h.2.2.2.2.1, h.2.2.2.2.2⟩
theorem FrK.m {I0 I I' : DI} {J0 J J' : DJ} {k w : Nat} (h : FrK I0 J0 k w I J) (g : FrM I J w I' J') : FrK I0 J0 k w I' J' :=
  ⟨fun b b1 b2 b3 => by rw [g.1 b b1 b3, h.1 b b1 b2 b3], fun j j1 j2 j3 j4 => by rw [g.2.1 j j2 j3 j4, h.2.1 j j1 j2 j3 j4], fun b i b1 b2 hi => by rw [g.1 b (by omega) (by omega), h.2.2.1 b i b1 b2 hi], fun i hi => by rw [g.2.2.1 i hi, h.2.2.2.1 i hi], fun b b1 => by rw [g.2.2.2.1 b b1, h.2.2.2.2.1 b b1], fun i hi => by rw [g.2.2.2.2 i hi, h.2.2.2.2.2 i hi]⟩
theorem FrK.c {I0 I : DI} {J0 J : DJ} {k w : Nat} (h : FrK I0 J0 k w I J) : I 138 = I0 138 := h.1 138 (by decide) (by decide) (by decide)
theorem FrK.n {I0 I : DI} {J0 J : DJ} {k w : Nat} (h : FrK I0 J0 k w I J) : I 124 18 = I0 124 18 := h.2.1 18 (by decide) (by decide) (by decide) (by decide)
/-- the term j stands in the model's cells, its words before w -/
def TmM (c : Nat → Int32) (j w : Nat) (t : TT) (I : DI) (J : DJ) : Prop := ∃ f, I 142 j = nI f ∧ f + t.2.2.2.length ≤ w ∧ I 139 j = nI t.1 ∧ I 140 j = bI t.2.1 ∧ (I 141 j = 1 ↔ t.2.2.1 = true) ∧ I 143 j = nI t.2.2.2.length ∧ WsM c f t.2.2.2 I J
def TkQ (I0 : DI) (J0 : DJ) (n k w a g : Nat) (I : DI) (J : DJ) : Prop := FrK I0 J0 k w I J ∧ match trm (I0 138) n a with
  | .inl f => I 124 29 = nI f ∧ f ≤ n
  | .inr p => ∃ b, I 124 29 = -1 ∧ I 124 28 = nI b ∧ b ≤ n ∧ a + 1 ≤ b ∧ skb (I0 138) n b = p.1 ∧ I 124 24 = nI (k + 1) ∧ I 124 27 = nI (w + p.2.2.2.length) ∧ w + p.2.2.2.length ≤ b ∧ TmM (I0 138) k (w + p.2.2.2.length) (g, p.2) I J
theorem okE_F {c : Nat → Int32} {n a : Nat} (hc : Chr c n) (h1 : ¬ nwM c n a < 0) (h2 : ¬ nwM c n a = 32) (h3 : ¬ nwM c n a = 124) : okE c n a = false := by
  unfold okE
  rw [decide_eq_false (fun h9 => h2 ((nw_eq).mpr h9)), decide_eq_false (fun h9 => h3 ((nw_eq).mpr h9)), decide_eq_false (fun h9 => h1 ((nw_neg hc).mpr ((nx_0 hc).mp h9)))]
  rfl
theorem okE_T {c : Nat → Int32} {n a : Nat} (hc : Chr c n) (h : nwM c n a < 0 ∨ nwM c n a = 32 ∨ nwM c n a = 124) : okE c n a = true := by
  unfold okE
  rcases h with h | h | h
  · rw [decide_eq_true ((nx_0 hc).mpr ((nw_neg hc).mp h))]; simp
  · rw [decide_eq_true ((nw_eq).mp h)]; simp
  · rw [decide_eq_true ((nw_eq).mp h)]; simp
set_option maxHeartbeats 4000000 in
set_option maxRecDepth 100000 in
theorem lpE_Md_takeTerm {C : CT} {l : Launch} {S : ShT} {d : Nat} (hC : OKC C l) (hS : SHP S) (hd : 3 ≤ d) {I0 : DI} {J0 : DJ} {n k w a g : Nat} (hn40 : n ≤ 40) (hk40 : k < 40) (hc : Chr (I0 138) n) (hn : I0 124 18 = nI n) {I : DI} {J : DJ} {b : Nat} {y : Int32} {neg pre : Bool} {ws : List (Nat × Nat)} (hp : trm (I0 138) n a = trE (I0 138) n b neg pre ws) (hfr : FrK I0 J0 k w I J) (h29 : I 124 29 = -1) (h28 : I 124 28 = nI b) (hb : b ≤ n) (h27 : I 124 27 = nI (w + ws.length)) (hwb : w + ws.length ≤ b) (h24 : I 124 24 = nI k) (h139 : I 139 k = nI g) (h140 : I 140 k = bI neg) (h141 : I 141 k = 1 ↔ pre = true) (h142 : I 142 k = nI w) (hws : WsM (I0 138) w ws I J) (hab : a + 1 ≤ b) : V C l k_Md_takeTerm (d, 0, 0) (PW S (TkQ I0 J0 n k w a g)) 164 [(0, .ref 124), (1, .int y)] [] S I J (0, 0) := by
  refine v_aload_n 0 d_Md_takeTerm_164 rfl rfl rfl ?_
  refine v_getr (r := 143) d_Md_takeTerm_165 fl_Md_66 (hS.o (by decide) rfl) rfl (hS.r (by decide) rfl) rfl ?_
  refine v_aload_n 0 d_Md_takeTerm_168 rfl rfl rfl ?_
  refine v_geti d_Md_takeTerm_169 fl_Md_163 (hS.o (by decide) rfl) rfl rfl ?_
  refine v_aload_n 0 d_Md_takeTerm_172 rfl rfl rfl ?_
  refine v_geti d_Md_takeTerm_173 fl_Md_154 (hS.o (by decide) rfl) rfl rfl ?_
  refine v_aload_n 0 d_Md_takeTerm_176 rfl rfl rfl ?_
  refine v_getr (r := 142) d_Md_takeTerm_177 fl_Md_63 (hS.o (by decide) rfl) rfl (hS.r (by decide) rfl) rfl ?_
  refine v_aload_n 0 d_Md_takeTerm_180 rfl rfl rfl ?_
  refine v_geti d_Md_takeTerm_181 fl_Md_163 (hS.o (by decide) rfl) rfl rfl ?_
  refine v_iald (j := k) d_Md_takeTerm_184 (hS.a (t := 32) (n := 40) (by decide) rfl) h24 (by omega) (by decide) rfl ?_
  refine v_isub d_Md_takeTerm_185 rfl ?_
  refine v_nmi (fun z1 ez1 => ?_)
  have nz1 : z1 = nI ((w + ws.length) - w) := by rw [ez1, show I 124 27 = nI (w + ws.length) from h27, show I 142 k = nI w from h142]; exact pk_sub (by omega)
  refine v_iast (j := k) d_Md_takeTerm_186 (hS.a (t := 32) (n := 40) (by decide) rfl) h24 (by omega) (by decide) rfl ?_
  generalize hI2 : u2 I 143 k z1 = I2
  have g24 : I2 124 24 = nI k := by rw [← hI2, u2_o (by decide)]; exact h24
  refine v_aload_n 0 d_Md_takeTerm_187 rfl rfl rfl ?_
  refine v_dup d_Md_takeTerm_188 rfl rfl ?_
  refine v_geti d_Md_takeTerm_189 fl_Md_163 (hS.o (by decide) rfl) rfl rfl ?_
  refine v_iconst (v := 1) d_Md_takeTerm_192 (by decide) rfl ?_
  refine v_iadd d_Md_takeTerm_193 rfl ?_
  refine v_nmi (fun z3 ez3 => ?_)
  have nz3 : z3 = nI (k + 1) := by rw [ez3, show I2 124 24 = nI k from g24, show 1 = nI 1 from rfl]; exact nI_add _ _
  refine v_puti d_Md_takeTerm_194 fl_Md_163 (hS.o (by decide) rfl) rfl rfl rfl ?_
  generalize hI4 : u2 I2 124 24 z3 = I4
  have hfr2 : FrK I0 J0 k w I4 J := by rw [← hI4, ← hI2]; exact (hfr.t 143 _ (by decide) (by decide)).q 24 _ (by decide)
  have s138 : I4 138 = I0 138 := hfr2.c
  have s18 : I4 124 18 = nI n := by rw [hfr2.n]; exact hn
  have s28 : I4 124 28 = nI b := by rw [← hI4, u2_n (by decide), ← hI2, u2_o (by decide)]; exact h28
  have s29 : I4 124 29 = -1 := by rw [← hI4, u2_n (by decide), ← hI2, u2_o (by decide)]; exact h29
  have hTm : TmM (I0 138) k (w + ws.length) (g, neg, pre, ws) I4 J := by
    rw [← hI4, ← hI2]
    refine ⟨w, by rw [u2_o (by decide), u2_o (by decide)]; exact h142, Nat.le_refl _, by rw [u2_o (by decide), u2_o (by decide)]; exact h139, by rw [u2_o (by decide), u2_o (by decide)]; exact h140, by rw [u2_o (by decide), u2_o (by decide)]; exact h141, by rw [u2_o (by decide), u2_s, nz1, show w + ws.length - w = ws.length by omega], fun i s l hi => by rw [u2_o (by decide), u2_o (by decide)]; exact hws i s l hi⟩
  have s24 : I4 124 24 = nI (k + 1) := by rw [← hI4, u2_s]; exact nz3
  have s27 : I4 124 27 = nI (w + ws.length) := by rw [← hI4, u2_n (by decide), ← hI2, u2_o (by decide)]; exact h27
  refine v_aload_n 0 d_Md_takeTerm_197 rfl rfl rfl ?_
  refine v_cVp (as := []) d_Md_takeTerm_198 cs_Md_144 (c_Md_now hC hS (d := d - 1) (n := n) (a := b) hn40 hb s18 s28 (by omega)) (hS.o (by decide) rfl) (by decide) rfl rfl rfl (by decide) (by omega) rfl ?_
  refine v_if_lt (tgt := 226) d_Md_takeTerm_201 (by decide) rfl (fun c5 => ?_) (fun c5 => ?_)
  · refine v_vret d_Md_takeTerm_226 rfl ?_
    refine ⟨rfl, rfl, hfr2, ?_⟩
    rw [hp]
    unfold trE
    rw [if_pos (okE_T hc (Or.inl (by rw [← s138]; exact c5)))]
    exact ⟨b, s29, s28, hb, hab, rfl, s24, s27, hwb, hTm⟩
  · refine v_aload_n 0 d_Md_takeTerm_204 rfl rfl rfl ?_
    refine v_cVp (as := []) d_Md_takeTerm_205 cs_Md_144 (c_Md_now hC hS (d := d - 1) (n := n) (a := b) hn40 hb s18 s28 (by omega)) (hS.o (by decide) rfl) (by decide) rfl rfl rfl (by decide) (by omega) rfl ?_
    refine v_bipush (v := 32) d_Md_takeTerm_208 (by decide) rfl ?_
    refine v_icmp_eq (tgt := 226) d_Md_takeTerm_210 (by decide) rfl (fun c6 => ?_) (fun c6 => ?_)
    · refine v_vret d_Md_takeTerm_226 rfl ?_
      refine ⟨rfl, rfl, hfr2, ?_⟩
      rw [hp]
      unfold trE
      rw [if_pos (okE_T hc (Or.inr (Or.inl (by rw [← s138]; exact c6))))]
      exact ⟨b, s29, s28, hb, hab, rfl, s24, s27, hwb, hTm⟩
    · refine v_aload_n 0 d_Md_takeTerm_213 rfl rfl rfl ?_
      refine v_cVp (as := []) d_Md_takeTerm_214 cs_Md_144 (c_Md_now hC hS (d := d - 1) (n := n) (a := b) hn40 hb s18 s28 (by omega)) (hS.o (by decide) rfl) (by decide) rfl rfl rfl (by decide) (by omega) rfl ?_
      refine v_bipush (v := 124) d_Md_takeTerm_217 (by decide) rfl ?_
      refine v_icmp_eq (tgt := 226) d_Md_takeTerm_219 (by decide) rfl (fun c7 => ?_) (fun c7 => ?_)
      · refine v_vret d_Md_takeTerm_226 rfl ?_
        refine ⟨rfl, rfl, hfr2, ?_⟩
        rw [hp]
        unfold trE
        rw [if_pos (okE_T hc (Or.inr (Or.inr (by rw [← s138]; exact c7))))]
        exact ⟨b, s29, s28, hb, hab, rfl, s24, s27, hwb, hTm⟩
      · refine v_aload_n 0 d_Md_takeTerm_222 rfl rfl rfl ?_
        refine v_cVu (as := []) d_Md_takeTerm_223 cs_Md_151 (c_Md_blame hC hS (d := d - 1) (by omega)) (hS.o (by decide) rfl) (by decide) rfl rfl rfl (by decide) (by omega) rfl (fun Ib hbl => ?_)
        refine v_vret d_Md_takeTerm_226 rfl ?_
        rw [if_pos (by rw [s29]; decide)] at hbl
        rw [s138] at c5 c6 c7
        refine ⟨rfl, rfl, by rw [hbl]; exact hfr2.q 29 _ (by decide), ?_⟩
        rw [hp]
        unfold trE
        rw [if_neg (by rw [okE_F hc c5 c6 c7]; decide)]
        exact ⟨by rw [hbl, u2_s]; exact s28, hb⟩
set_option maxHeartbeats 4000000 in
set_option maxRecDepth 100000 in
theorem lpB_Md_takeTerm {C : CT} {l : Launch} {S : ShT} {d : Nat} (hC : OKC C l) (hS : SHP S) (hd : 3 ≤ d) {I0 : DI} {J0 : DJ} {n k w a g : Nat} (hn40 : n ≤ 40) (hk40 : k < 40) (hc : Chr (I0 138) n) (hn : I0 124 18 = nI n) {I : DI} {J : DJ} {b : Nat} {y : Int32} {neg : Bool} (ey : y = nI g) (htr : trm (I0 138) n a = trB (I0 138) n b neg) (hfr : FrK I0 J0 k w I J) (h29 : I 124 29 = -1) (h28 : I 124 28 = nI b) (hb : b ≤ n) (h27 : I 124 27 = nI w) (hwb : w ≤ b) (h24 : I 124 24 = nI k) (h140 : I 140 k = bI neg) (hab : a ≤ b) : V C l k_Md_takeTerm (d, 0, 0) (PW S (TkQ I0 J0 n k w a g)) 45 [(0, .ref 124), (1, .int y)] [] S I J (0, 0) := by
  refine v_aload_n 0 d_Md_takeTerm_45 rfl rfl rfl ?_
  refine v_getr (r := 139) d_Md_takeTerm_46 fl_Md_54 (hS.o (by decide) rfl) rfl (hS.r (by decide) rfl) rfl ?_
  refine v_aload_n 0 d_Md_takeTerm_49 rfl rfl rfl ?_
  refine v_geti d_Md_takeTerm_50 fl_Md_163 (hS.o (by decide) rfl) rfl rfl ?_
  refine v_iload_n 1 d_Md_takeTerm_53 rfl rfl rfl ?_
  refine v_iast (j := k) d_Md_takeTerm_54 (hS.a (t := 32) (n := 40) (by decide) rfl) h24 (by omega) (by decide) rfl ?_
  generalize hI1 : u2 I 139 k y = I1
  have g2 : I1 124 24 = nI k := by rw [← hI1, u2_o (by decide)]; exact h24
  have g3 : I1 124 27 = nI w := by rw [← hI1, u2_o (by decide)]; exact h27
  refine v_aload_n 0 d_Md_takeTerm_55 rfl rfl rfl ?_
  refine v_getr (r := 142) d_Md_takeTerm_56 fl_Md_63 (hS.o (by decide) rfl) rfl (hS.r (by decide) rfl) rfl ?_
  refine v_aload_n 0 d_Md_takeTerm_59 rfl rfl rfl ?_
  refine v_geti d_Md_takeTerm_60 fl_Md_163 (hS.o (by decide) rfl) rfl rfl ?_
  refine v_aload_n 0 d_Md_takeTerm_63 rfl rfl rfl ?_
  refine v_geti d_Md_takeTerm_64 fl_Md_154 (hS.o (by decide) rfl) rfl rfl ?_
  refine v_iast (j := k) d_Md_takeTerm_67 (hS.a (t := 32) (n := 40) (by decide) rfl) g2 (by omega) (by decide) rfl ?_
  generalize hI4 : u2 I1 142 k (I1 124 27) = I4
  have g5 : I4 124 24 = nI k := by rw [← hI4, u2_o (by decide)]; exact g2
  have hf68 : FrK I0 J0 k w I4 J := by rw [← hI4, ← hI1]; exact (hfr.t 139 _ (by decide) (by decide)).t 142 _ (by decide) (by decide)
  have b28 : I4 124 28 = nI b := by rw [← hI4, u2_o (by decide), ← hI1, u2_o (by decide)]; exact h28
  have b18 : I4 124 18 = nI n := by rw [hf68.n]; exact hn
  refine v_aload_n 0 d_Md_takeTerm_68 rfl rfl rfl ?_
  refine v_getr (r := 141) d_Md_takeTerm_69 fl_Md_60 (hS.o (by decide) rfl) rfl (hS.r (by decide) rfl) rfl ?_
  refine v_aload_n 0 d_Md_takeTerm_72 rfl rfl rfl ?_
  refine v_geti d_Md_takeTerm_73 fl_Md_163 (hS.o (by decide) rfl) rfl rfl ?_
  refine v_aload_n 0 d_Md_takeTerm_76 rfl rfl rfl ?_
  refine v_cVp (as := []) d_Md_takeTerm_77 cs_Md_144 (c_Md_now hC hS (d := d - 1) (n := n) (a := b) hn40 hb b18 b28 (by omega)) (hS.o (by decide) rfl) (by decide) rfl rfl rfl (by simp [Value.category]) (by omega) rfl ?_
  refine v_bipush (v := 34) d_Md_takeTerm_80 (by decide) rfl ?_
  refine v_icmp_ne (tgt := 89) d_Md_takeTerm_82 (by decide) rfl (fun c6 => ?_) (fun c6 => ?_)
  · refine v_iconst (v := 0) d_Md_takeTerm_89 (by decide) rfl ?_
    refine v_iast (j := k) d_Md_takeTerm_90 (hS.a (t := 32) (n := 40) (by decide) rfl) g5 (by omega) (by decide) rfl ?_
    generalize hI7 : u2 I4 141 k 0 = I7
    have g8 : I7 124 24 = nI k := by rw [← hI7, u2_o (by decide)]; exact g5
    have hf5 : FrK I0 J0 k w I7 J := by rw [← hI7]; exact hf68.t 141 _ (by decide) (by decide)
    have s141 : I7 141 k = 0 := by rw [← hI7, u2_s]
    have s139 : I7 139 k = nI g := by rw [← hI7, u2_o (by decide), ← hI4, u2_o (by decide), ← hI1, u2_s]; exact ey
    have s140 : I7 140 k = bI neg := by rw [← hI7, u2_o (by decide), ← hI4, u2_o (by decide), ← hI1, u2_o (by decide)]; exact h140
    have s142 : I7 142 k = nI w := by rw [← hI7, u2_o (by decide), ← hI4, u2_s]; exact g3
    have s24 : I7 124 24 = nI k := by rw [← hI7, u2_o (by decide), ← hI4, u2_o (by decide), ← hI1, u2_o (by decide)]; exact h24
    have s27 : I7 124 27 = nI w := by rw [← hI7, u2_o (by decide), ← hI4, u2_o (by decide), ← hI1, u2_o (by decide)]; exact h27
    have s29 : I7 124 29 = -1 := by rw [← hI7, u2_o (by decide), ← hI4, u2_o (by decide), ← hI1, u2_o (by decide)]; exact h29
    have s28 : I7 124 28 = nI b := by rw [← hI7, u2_o (by decide)]; exact b28
    have s18 : I7 124 18 = nI n := by rw [hf5.n]; exact hn
    have s138 : I7 138 = I0 138 := hf5.c
    have hq0 : ¬ nx (I0 138) n b = 34 := fun h9 => c6 (by rw [hf68.c]; exact (nw_eq).mpr h9)
    refine v_aload_n 0 d_Md_takeTerm_91 rfl rfl rfl ?_
    refine v_getr (r := 141) d_Md_takeTerm_92 fl_Md_60 (hS.o (by decide) rfl) rfl (hS.r (by decide) rfl) rfl ?_
    refine v_aload_n 0 d_Md_takeTerm_95 rfl rfl rfl ?_
    refine v_geti d_Md_takeTerm_96 fl_Md_163 (hS.o (by decide) rfl) rfl rfl ?_
    refine v_iald (j := k) d_Md_takeTerm_99 (hS.a (t := 32) (n := 40) (by decide) rfl) g8 (by omega) (by decide) rfl ?_
    refine v_iconst (v := 2) d_Md_takeTerm_100 (by decide) rfl ?_
    refine v_icmp_ne (tgt := 111) d_Md_takeTerm_101 (by decide) rfl (fun c9 => ?_) (fun c9 => ?_)
    · refine v_aload_n 0 d_Md_takeTerm_111 rfl rfl rfl ?_
      refine v_cVw (as := []) d_Md_takeTerm_112 cs_Md_160 (c_Md_takeWord hC hS (d := d - 1) (n := n) (a := b) (w := w) hn40 hb (by rw [s138]; exact hc) s18 s28 s27 (by omega) s29 (by omega)) (hS.o (by decide) rfl) (by decide) rfl rfl rfl (by decide) (by omega) rfl (fun I8 J8 hq => ?_)
      have htr2 : trm (I0 138) n a = (if badW (I0 138) n b then .inl (b + lcn (I0 138) n b 8) else trE (I0 138) n (b + lcn (I0 138) n b 8 + if nx (I0 138) n (b + lcn (I0 138) n b 8) = 42 then 1 else 0) neg (decide (nx (I0 138) n (b + lcn (I0 138) n b 8) = 42)) [(b, lcn (I0 138) n b 8)]) := by rw [htr]; unfold trB; rw [if_neg hq0]
      rcases id hq with ⟨q1, q2, q3⟩ | ⟨q1, q2, q3⟩
      · rw [s138] at q1 q2
        rw [if_pos q1] at htr2
        refine v_aload_n 0 d_Md_takeTerm_115 rfl rfl rfl ?_
        refine v_geti d_Md_takeTerm_116 fl_Md_148 (hS.o (by decide) rfl) rfl rfl ?_
        refine v_if_lt (tgt := 123) d_Md_takeTerm_119 (by decide) rfl (fun c10 => ?_) (fun c10 => ?_)
        · exact absurd c10 (by rw [q2, u2_s]; exact nI_pos (by have := lcn_n (c := I0 138) 8 b hb; omega))
        · refine v_vret d_Md_takeTerm_122 rfl ?_
          refine ⟨rfl, rfl, by rw [q2, q3]; exact (hf5.q 28 _ (by decide)).q 29 _ (by decide), ?_⟩
          rw [htr2]
          exact ⟨by rw [q2, u2_s], lcn_n 8 b hb⟩
      · rw [s138] at q1 q2 q3
        rw [if_neg (by rw [q1]; decide)] at htr2
        have hP1 := PmS.word (I0 := I7) (J0 := J) (I' := I8) (J' := J8) (n := n) (w := w) (b := b) (ws := []) ⟨FrM.rf, s29, s28, hb, s27, fun i s l hi => by simp at hi, hwb⟩ (by rw [s138]; exact q1) (by rw [s138]; exact q2) (by rw [s138]; exact q3)
        rw [s138] at hP1
        obtain ⟨p1, p2, p3, p4, p5, p6, p7⟩ := hP1
        rw [s138] at p6
        have hf8 := hf5.m p1
        have r24 : I8 124 24 = nI k := by rw [p1.2.1 24 (by decide) (by decide) (by decide)]; exact s24
        have r141 : I8 141 k = 0 := by rw [p1.1 141 (by decide) (by decide)]; exact s141
        have r18 : I8 124 18 = nI n := by rw [hf8.n]; exact hn
        have r138 : I8 138 = I0 138 := hf8.c
        refine v_aload_n 0 d_Md_takeTerm_115 rfl rfl rfl ?_
        refine v_geti d_Md_takeTerm_116 fl_Md_148 (hS.o (by decide) rfl) rfl rfl ?_
        refine v_if_lt (tgt := 123) d_Md_takeTerm_119 (by decide) rfl (fun c11 => ?_) (fun c11 => ?_)
        · refine v_aload_n 0 d_Md_takeTerm_123 rfl rfl rfl ?_
          refine v_getr (r := 141) d_Md_takeTerm_124 fl_Md_60 (hS.o (by decide) rfl) rfl (hS.r (by decide) rfl) rfl ?_
          refine v_aload_n 0 d_Md_takeTerm_127 rfl rfl rfl ?_
          refine v_geti d_Md_takeTerm_128 fl_Md_163 (hS.o (by decide) rfl) rfl rfl ?_
          refine v_iald (j := k) d_Md_takeTerm_131 (hS.a (t := 32) (n := 40) (by decide) rfl) r24 (by omega) (by decide) rfl ?_
          refine v_if_ne (tgt := 164) d_Md_takeTerm_132 (by decide) rfl (fun c12 => ?_) (fun c12 => ?_)
          · exact absurd r141 c12
          · refine v_aload_n 0 d_Md_takeTerm_135 rfl rfl rfl ?_
            refine v_cVp (as := []) d_Md_takeTerm_136 cs_Md_144 (c_Md_now hC hS (d := d - 1) (n := n) (a := (b + lcn (I0 138) n b 8)) hn40 p4 r18 p3 (by omega)) (hS.o (by decide) rfl) (by decide) rfl rfl rfl (by decide) (by omega) rfl ?_
            refine v_bipush (v := 42) d_Md_takeTerm_139 (by decide) rfl ?_
            refine v_icmp_ne (tgt := 164) d_Md_takeTerm_141 (by decide) rfl (fun c13 => ?_) (fun c13 => ?_)
            · have hstar : ¬ nx (I0 138) n (b + lcn (I0 138) n b 8) = 42 := fun h9 => c13 (by rw [r138]; exact (nw_eq).mpr h9)
              have hl0 : 1 ≤ lcn (I0 138) n b 8 := by rcases Nat.eq_zero_or_pos (lcn (I0 138) n b 8) with h9 | h9; simp [badW, h9] at q1; exact h9
              rw [if_neg hstar, decide_eq_false hstar] at htr2
              exact lpE_Md_takeTerm hC hS hd hn40 hk40 hc hn (pre := false) htr2 hf8 p2 p3 p4 p5 p7 r24 (by rw [p1.1 139 (by decide) (by decide)]; exact s139) (by rw [p1.1 140 (by decide) (by decide)]; exact s140) (by rw [r141]; decide) (by rw [p1.1 142 (by decide) (by decide)]; exact s142) p6 (by omega)
            · refine v_aload_n 0 d_Md_takeTerm_144 rfl rfl rfl ?_
              refine v_getr (r := 141) d_Md_takeTerm_145 fl_Md_60 (hS.o (by decide) rfl) rfl (hS.r (by decide) rfl) rfl ?_
              refine v_aload_n 0 d_Md_takeTerm_148 rfl rfl rfl ?_
              refine v_geti d_Md_takeTerm_149 fl_Md_163 (hS.o (by decide) rfl) rfl rfl ?_
              refine v_iconst (v := 1) d_Md_takeTerm_152 (by decide) rfl ?_
              refine v_iast (j := k) d_Md_takeTerm_153 (hS.a (t := 32) (n := 40) (by decide) rfl) r24 (by omega) (by decide) rfl ?_
              generalize hI14 : u2 I8 141 k 1 = I14
              have t28 : I14 124 28 = nI (b + lcn (I0 138) n b 8) := by rw [← hI14, u2_o (by decide)]; exact p3
              refine v_aload_n 0 d_Md_takeTerm_154 rfl rfl rfl ?_
              refine v_dup d_Md_takeTerm_155 rfl rfl ?_
              refine v_geti d_Md_takeTerm_156 fl_Md_141 (hS.o (by decide) rfl) rfl rfl ?_
              refine v_iconst (v := 1) d_Md_takeTerm_159 (by decide) rfl ?_
              refine v_iadd d_Md_takeTerm_160 rfl ?_
              refine v_nmi (fun z15 ez15 => ?_)
              have nz15 : z15 = nI ((b + lcn (I0 138) n b 8) + 1) := by rw [ez15, show I14 124 28 = nI (b + lcn (I0 138) n b 8) from t28, show 1 = nI 1 from rfl]; exact nI_add _ _
              refine v_puti d_Md_takeTerm_161 fl_Md_141 (hS.o (by decide) rfl) rfl rfl rfl ?_
              generalize hI16 : u2 I14 124 28 z15 = I16
              have hstar : nx (I0 138) n (b + lcn (I0 138) n b 8) = 42 := (nw_eq).mp (by have h9 := c13; rw [r138] at h9; exact h9)
              have hl0 : 1 ≤ lcn (I0 138) n b 8 := by rcases Nat.eq_zero_or_pos (lcn (I0 138) n b 8) with h9 | h9; simp [badW, h9] at q1; exact h9
              rw [if_pos hstar, decide_eq_true hstar] at htr2
              exact lpE_Md_takeTerm hC hS hd hn40 hk40 hc hn (pre := true) htr2 (by rw [← hI16, ← hI14]; exact (hf8.t 141 _ (by decide) (by decide)).q 28 _ (by decide)) (by rw [← hI16, u2_n (by decide), ← hI14, u2_o (by decide)]; exact p2) (by rw [← hI16, u2_s]; exact nz15) (isQ_lt hstar) (by rw [← hI16, u2_n (by decide), ← hI14, u2_o (by decide)]; exact p5) (by simp at p7; simp; omega) (by rw [← hI16, u2_n (by decide), ← hI14, u2_o (by decide)]; exact r24) (by rw [← hI16, u2_o (by decide), ← hI14, u2_o (by decide), p1.1 139 (by decide) (by decide)]; exact s139) (by rw [← hI16, u2_o (by decide), ← hI14, u2_o (by decide), p1.1 140 (by decide) (by decide)]; exact s140) (by rw [← hI16, u2_o (by decide), ← hI14, u2_s]; simp) (by rw [← hI16, u2_o (by decide), ← hI14, u2_o (by decide), p1.1 142 (by decide) (by decide)]; exact s142) (fun i s l hi => by rw [← hI16, u2_o (by decide), ← hI14, u2_o (by decide)]; exact p6 i s l hi) (by omega)
        · exact absurd (by rw [p2]; decide) c11
    · exact absurd c9 (by rw [s141]; decide)
  · refine v_iconst (v := 2) d_Md_takeTerm_85 (by decide) rfl ?_
    refine v_goto (tgt := 90) d_Md_takeTerm_86 (by decide) ?_
    refine v_iast (j := k) d_Md_takeTerm_90 (hS.a (t := 32) (n := 40) (by decide) rfl) g5 (by omega) (by decide) rfl ?_
    generalize hI17 : u2 I4 141 k 2 = I17
    have g18 : I17 124 24 = nI k := by rw [← hI17, u2_o (by decide)]; exact g5
    have hf5 : FrK I0 J0 k w I17 J := by rw [← hI17]; exact hf68.t 141 _ (by decide) (by decide)
    have s141 : I17 141 k = 2 := by rw [← hI17, u2_s]
    have s139 : I17 139 k = nI g := by rw [← hI17, u2_o (by decide), ← hI4, u2_o (by decide), ← hI1, u2_s]; exact ey
    have s140 : I17 140 k = bI neg := by rw [← hI17, u2_o (by decide), ← hI4, u2_o (by decide), ← hI1, u2_o (by decide)]; exact h140
    have s142 : I17 142 k = nI w := by rw [← hI17, u2_o (by decide), ← hI4, u2_s]; exact g3
    have s24 : I17 124 24 = nI k := by rw [← hI17, u2_o (by decide), ← hI4, u2_o (by decide), ← hI1, u2_o (by decide)]; exact h24
    have s27 : I17 124 27 = nI w := by rw [← hI17, u2_o (by decide), ← hI4, u2_o (by decide), ← hI1, u2_o (by decide)]; exact h27
    have s29 : I17 124 29 = -1 := by rw [← hI17, u2_o (by decide), ← hI4, u2_o (by decide), ← hI1, u2_o (by decide)]; exact h29
    have s28 : I17 124 28 = nI b := by rw [← hI17, u2_o (by decide)]; exact b28
    have s18 : I17 124 18 = nI n := by rw [hf5.n]; exact hn
    have s138 : I17 138 = I0 138 := hf5.c
    have hq0 : nx (I0 138) n b = 34 := (nw_eq).mp (by rw [← hf68.c]; exact c6)
    refine v_aload_n 0 d_Md_takeTerm_91 rfl rfl rfl ?_
    refine v_getr (r := 141) d_Md_takeTerm_92 fl_Md_60 (hS.o (by decide) rfl) rfl (hS.r (by decide) rfl) rfl ?_
    refine v_aload_n 0 d_Md_takeTerm_95 rfl rfl rfl ?_
    refine v_geti d_Md_takeTerm_96 fl_Md_163 (hS.o (by decide) rfl) rfl rfl ?_
    refine v_iald (j := k) d_Md_takeTerm_99 (hS.a (t := 32) (n := 40) (by decide) rfl) g18 (by omega) (by decide) rfl ?_
    refine v_iconst (v := 2) d_Md_takeTerm_100 (by decide) rfl ?_
    refine v_icmp_ne (tgt := 111) d_Md_takeTerm_101 (by decide) rfl (fun c19 => ?_) (fun c19 => ?_)
    · exact absurd s141 c19
    · refine v_aload_n 0 d_Md_takeTerm_104 rfl rfl rfl ?_
      refine v_cVw (as := []) d_Md_takeTerm_105 cs_Md_166 (c_Md_takePhrase hC hS (d := d - 1) (n := n) (a := b) (w := w) hn40 (isQ_lt hq0) (by rw [s138]; exact hc) s18 s28 s27 hwb s29 (by omega)) (hS.o (by decide) rfl) (by decide) rfl rfl rfl (by decide) (by omega) rfl (fun I8 J8 hq => ?_)
      refine v_goto (tgt := 115) d_Md_takeTerm_108 (by decide) ?_
      have htr2 : trm (I0 138) n a = (match phr (I0 138) n (b + 1) with | .inl f => .inl f | .inr p => trE (I0 138) n p.1 neg false p.2) := by rw [htr]; unfold trB; rw [if_pos hq0]; cases phr (I0 138) n (b + 1) <;> rfl
      unfold PmQ at hq
      rw [s138] at hq
      rcases hph : phr (I0 138) n (b + 1) with f | p
      · rw [hph] at hq htr2
        obtain ⟨q1, q2, q3⟩ := hq
        have hf8 := hf5.m q1
        refine v_aload_n 0 d_Md_takeTerm_115 rfl rfl rfl ?_
        refine v_geti d_Md_takeTerm_116 fl_Md_148 (hS.o (by decide) rfl) rfl rfl ?_
        refine v_if_lt (tgt := 123) d_Md_takeTerm_119 (by decide) rfl (fun c20 => ?_) (fun c20 => ?_)
        · exact absurd c20 (by rw [q2]; exact nI_pos (by omega))
        · refine v_vret d_Md_takeTerm_122 rfl ?_
          refine ⟨rfl, rfl, hf8, ?_⟩
          rw [htr2]
          exact ⟨q2, q3⟩
      · rw [hph] at hq htr2
        obtain ⟨q1, q2, q3, q4, q5, q6, q7⟩ := hq
        have hf8 := hf5.m q1
        rw [s138] at q6
        have r24 : I8 124 24 = nI k := by rw [q1.2.1 24 (by decide) (by decide) (by decide)]; exact s24
        have r141 : I8 141 k = 2 := by rw [q1.1 141 (by decide) (by decide)]; exact s141
        refine v_aload_n 0 d_Md_takeTerm_115 rfl rfl rfl ?_
        refine v_geti d_Md_takeTerm_116 fl_Md_148 (hS.o (by decide) rfl) rfl rfl ?_
        refine v_if_lt (tgt := 123) d_Md_takeTerm_119 (by decide) rfl (fun c21 => ?_) (fun c21 => ?_)
        · refine v_aload_n 0 d_Md_takeTerm_123 rfl rfl rfl ?_
          refine v_getr (r := 141) d_Md_takeTerm_124 fl_Md_60 (hS.o (by decide) rfl) rfl (hS.r (by decide) rfl) rfl ?_
          refine v_aload_n 0 d_Md_takeTerm_127 rfl rfl rfl ?_
          refine v_geti d_Md_takeTerm_128 fl_Md_163 (hS.o (by decide) rfl) rfl rfl ?_
          refine v_iald (j := k) d_Md_takeTerm_131 (hS.a (t := 32) (n := 40) (by decide) rfl) r24 (by omega) (by decide) rfl ?_
          refine v_if_ne (tgt := 164) d_Md_takeTerm_132 (by decide) rfl (fun c22 => ?_) (fun c22 => ?_)
          · exact lpE_Md_takeTerm hC hS hd hn40 hk40 hc hn (pre := false) htr2 hf8 q2 q3 q4 q5 q7 r24 (by rw [q1.1 139 (by decide) (by decide)]; exact s139) (by rw [q1.1 140 (by decide) (by decide)]; exact s140) (by rw [r141]; decide) (by rw [q1.1 142 (by decide) (by decide)]; exact s142) q6 (by have := (phr_le (isQ_lt hq0) hph).1; omega)
          · exact absurd c22 (by rw [r141]; decide)
        · exact absurd (by rw [q2]; decide) c21
set_option maxHeartbeats 4000000 in
set_option maxRecDepth 100000 in
theorem c_Md_takeTerm {C : CT} {l : Launch} {S : ShT} {I : DI} {J : DJ} {d : Nat} (hC : OKC C l) (hS : SHP S) {n k w a g : Nat} {y : Int32} (hn40 : n ≤ 40) (han : a < n) (hk40 : k < 40) (hc : Chr (I 138) n) (hn : I 124 18 = nI n) (ha : I 124 28 = nI a) (hk : I 124 24 = nI k) (hw : I 124 27 = nI w) (hwa : w ≤ a) (hwr : I 124 29 = -1) (ey : y = nI g) (hd : 3 ≤ d) : Sp C l k_Md_takeTerm y_Md_takeTerm (d, 0, 0) [.ref 124, .int y] S I J (PW S (TkQ I J n k w a g)) := by
  refine Sp.of hC cd_Md_takeTerm (Nat.le_of_ble_eq_true rfl) ?_
  show V C l k_Md_takeTerm (d, 0, 0) _ 0 [(0, .ref 124), (1, .int y)] [] S I J (0, 0)
  refine v_aload_n 0 d_Md_takeTerm_0 rfl rfl rfl ?_
  refine v_getr (r := 140) d_Md_takeTerm_1 fl_Md_57 (hS.o (by decide) rfl) rfl (hS.r (by decide) rfl) rfl ?_
  refine v_aload_n 0 d_Md_takeTerm_4 rfl rfl rfl ?_
  refine v_geti d_Md_takeTerm_5 fl_Md_163 (hS.o (by decide) rfl) rfl rfl ?_
  refine v_aload_n 0 d_Md_takeTerm_8 rfl rfl rfl ?_
  refine v_cVp (as := []) d_Md_takeTerm_9 cs_Md_144 (c_Md_now hC hS (d := d - 1) (n := n) (a := a) hn40 (by omega) hn ha (by omega)) (hS.o (by decide) rfl) (by decide) rfl rfl rfl (by simp [Value.category]) (by omega) rfl ?_
  refine v_bipush (v := 45) d_Md_takeTerm_12 (by decide) rfl ?_
  refine v_icmp_ne (tgt := 21) d_Md_takeTerm_14 (by decide) rfl (fun c1 => ?_) (fun c1 => ?_)
  · refine v_iconst (v := 0) d_Md_takeTerm_21 (by decide) rfl ?_
    refine v_zast (j := k) d_Md_takeTerm_22 (hS.a (t := 33) (n := 40) (by decide) rfl) hk (by omega) (by decide) (Or.inl rfl) rfl ?_
    generalize hI2 : u2 I 140 k 0 = I2
    have g3 : I2 124 24 = nI k := by rw [← hI2, u2_o (by decide)]; exact hk
    have g4 : I2 124 28 = nI a := by rw [← hI2, u2_o (by decide)]; exact ha
    have s140 : I2 140 k = 0 := by rw [← hI2, u2_s]
    have hng : ¬ nx (I 138) n a = 45 := fun h9 => c1 ((nw_eq).mpr h9)
    refine v_aload_n 0 d_Md_takeTerm_23 rfl rfl rfl ?_
    refine v_getr (r := 140) d_Md_takeTerm_24 fl_Md_57 (hS.o (by decide) rfl) rfl (hS.r (by decide) rfl) rfl ?_
    refine v_aload_n 0 d_Md_takeTerm_27 rfl rfl rfl ?_
    refine v_geti d_Md_takeTerm_28 fl_Md_163 (hS.o (by decide) rfl) rfl rfl ?_
    refine v_zald (j := k) d_Md_takeTerm_31 (hS.a (t := 33) (n := 40) (by decide) rfl) g3 (by omega) (by decide) rfl ?_
    refine v_if_eq (tgt := 45) d_Md_takeTerm_32 (by decide) rfl (fun c5 => ?_) (fun c5 => ?_)
    · exact lpB_Md_takeTerm hC hS hd hn40 hk40 hc hn (b := a) (neg := false) ey (by unfold trm; rw [if_neg hng]) (by rw [← hI2]; exact FrK.rf.t 140 _ (by decide) (by decide)) (by rw [← hI2, u2_o (by decide)]; exact hwr) (by rw [← hI2, u2_o (by decide)]; exact ha) (by omega) (by rw [← hI2, u2_o (by decide)]; exact hw) hwa (by rw [← hI2, u2_o (by decide)]; exact hk) s140 (Nat.le_refl _)
    · exact absurd s140 c5
  · refine v_iconst (v := 1) d_Md_takeTerm_17 (by decide) rfl ?_
    refine v_goto (tgt := 22) d_Md_takeTerm_18 (by decide) ?_
    refine v_zast (j := k) d_Md_takeTerm_22 (hS.a (t := 33) (n := 40) (by decide) rfl) hk (by omega) (by decide) (Or.inr rfl) rfl ?_
    generalize hI6 : u2 I 140 k 1 = I6
    have g7 : I6 124 24 = nI k := by rw [← hI6, u2_o (by decide)]; exact hk
    have g8 : I6 124 28 = nI a := by rw [← hI6, u2_o (by decide)]; exact ha
    have s140 : I6 140 k = 1 := by rw [← hI6, u2_s]
    have hng : nx (I 138) n a = 45 := (nw_eq).mp c1
    refine v_aload_n 0 d_Md_takeTerm_23 rfl rfl rfl ?_
    refine v_getr (r := 140) d_Md_takeTerm_24 fl_Md_57 (hS.o (by decide) rfl) rfl (hS.r (by decide) rfl) rfl ?_
    refine v_aload_n 0 d_Md_takeTerm_27 rfl rfl rfl ?_
    refine v_geti d_Md_takeTerm_28 fl_Md_163 (hS.o (by decide) rfl) rfl rfl ?_
    refine v_zald (j := k) d_Md_takeTerm_31 (hS.a (t := 33) (n := 40) (by decide) rfl) g7 (by omega) (by decide) rfl ?_
    refine v_if_eq (tgt := 45) d_Md_takeTerm_32 (by decide) rfl (fun c9 => ?_) (fun c9 => ?_)
    · exact absurd c9 (by rw [s140]; decide)
    · refine v_aload_n 0 d_Md_takeTerm_35 rfl rfl rfl ?_
      refine v_dup d_Md_takeTerm_36 rfl rfl ?_
      refine v_geti d_Md_takeTerm_37 fl_Md_141 (hS.o (by decide) rfl) rfl rfl ?_
      refine v_iconst (v := 1) d_Md_takeTerm_40 (by decide) rfl ?_
      refine v_iadd d_Md_takeTerm_41 rfl ?_
      refine v_nmi (fun z10 ez10 => ?_)
      have nz10 : z10 = nI (a + 1) := by rw [ez10, show I6 124 28 = nI a from g8, show 1 = nI 1 from rfl]; exact nI_add _ _
      refine v_puti d_Md_takeTerm_42 fl_Md_141 (hS.o (by decide) rfl) rfl rfl rfl ?_
      generalize hI11 : u2 I6 124 28 z10 = I11
      exact lpB_Md_takeTerm hC hS hd hn40 hk40 hc hn (b := a + 1) (neg := true) ey (by unfold trm; rw [if_pos hng]) (by rw [← hI11, ← hI6]; exact (FrK.rf.t 140 _ (by decide) (by decide)).q 28 _ (by decide)) (by rw [← hI11, u2_n (by decide), ← hI6, u2_o (by decide)]; exact hwr) (by rw [← hI11, u2_s]; exact nz10) (isQ_lt hng) (by rw [← hI11, u2_n (by decide), ← hI6, u2_o (by decide)]; exact hw) (by omega) (by rw [← hI11, u2_n (by decide), ← hI6, u2_o (by decide)]; exact hk) (by rw [← hI11, u2_o (by decide)]; exact s140) (by omega)
