/-! ===== THE MODEL, 8: phrases ===== -/
theorem phr_none {c : Nat → Int32} {n a b : Nat} {ws : List (Nat × Nat)} (h : phF c n 4 (skb c n a) [] = (none, b, ws)) : phr c n a = if ws = [] ∨ ¬ nx c n b = 34 then .inl b else .inr (b + 1, ws) := by
  unfold phr
  rw [h]
theorem phr_some {c : Nat → Int32} {n a b f : Nat} {ws : List (Nat × Nat)} (h : phF c n 4 (skb c n a) [] = (some f, b, ws)) : phr c n a = .inl f := by
  unfold phr
  rw [h]
/-- the frame of what is parsed, behind w words */ -/
def FrM (I0 : DI) (J0 : DJ) (w : Nat) (I : DI) (J : DJ) : Prop := (∀ b, b ≠ 124 → b ≠ 145 → I b = I0 b) ∧ (∀ j, j ≠ 27 → j ≠ 28 → j ≠ 29 → I 124 j = I0 124 j) ∧ (∀ i, i < w → I 145 i = I0 145 i) ∧ (∀ b, b ≠ 144 → J b = J0 b) ∧ ∀ i, i < w → J 144 i = J0 144 i
theorem FrM.rf {I : DI} {J : DJ} {w : Nat} : FrM I J w I J := ⟨fun _ _ _ => rfl, fun _ _ _ _ => rfl, fun _ _ => rfl, fun _ _ => rfl, fun _ _ => rfl⟩
theorem FrM.q {I0 I : DI} {J0 J : DJ} {w : Nat} (h : FrM I0 J0 w I J) (k : Nat) (x : Int32) (hk : k = 27 ∨ k = 28 ∨ k = 29) : FrM I0 J0 w (u2 I 124 k x) J :=
  ⟨fun b b1 b2 => by rw [u2_o b1, h.1 b b1 b2], fun j j1 j2 j3 => by rw [u2_n (Or.inr (by omega)), h.2.1 j j1 j2 j3], fun i hi => by rw [u2_o (by decide), h.2.2.1 i hi], h.2.2.2.1, h.2.2.2.2⟩
theorem FrM.w {I0 I : DI} {J0 J : DJ} {w : Nat} (h : FrM I0 J0 w I J) {k : Nat} (hk : w ≤ k) (x : Int32) (y : Int64) : FrM I0 J0 w (u2 I 145 k x) (u2 J 144 k y) :=
  ⟨fun b b1 b2 => by rw [u2_o b2, h.1 b b1 b2], fun j j1 j2 j3 => by rw [u2_o (by decide), h.2.1 j j1 j2 j3], fun i hi => by rw [u2_n (Or.inr (by omega)), h.2.2.1 i hi], fun b b1 => by rw [u2_o b1, h.2.2.2.1 b b1], fun i hi => by rw [u2_n (Or.inr (by omega)), h.2.2.2.2 i hi]⟩
def WsM (c : Nat → Int32) (w : Nat) (ws : List (Nat × Nat)) (I : DI) (J : DJ) : Prop := ∀ i s l, ws[i]? = some (s, l) → J 144 (w + i) = wM c s l ∧ I 145 (w + i) = nI l
theorem WsM.q {c : Nat → Int32} {w : Nat} {ws : List (Nat × Nat)} {I : DI} {J : DJ} (h : WsM c w ws I J) (k : Nat) (x : Int32) : WsM c w ws (u2 I 124 k x) J := fun i s l hi => by rw [u2_o (by decide)]; exact h i s l hi
theorem WsM.add {c : Nat → Int32} {w : Nat} {ws : List (Nat × Nat)} {I : DI} {J : DJ} (h : WsM c w ws I J) (s l : Nat) : WsM c w (ws ++ [(s, l)]) (u2 I 145 (w + ws.length) (nI l)) (u2 J 144 (w + ws.length) (wM c s l)) := by
  intro i s' l' hi
  by_cases hi2 : i < ws.length
  · rw [List.getElem?_append_left hi2] at hi
    rw [u2_n (Or.inr (by omega)), u2_n (Or.inr (by omega))]
    exact h i s' l' hi
  · rw [List.getElem?_append_right (by omega)] at hi
    have hz : i - ws.length < 1 := (List.getElem?_eq_some_iff.mp hi).1
    rw [show i - ws.length = 0 by omega] at hi
    cases hi
    rw [show i = ws.length by omega, u2_s, u2_s]
    exact ⟨rfl, rfl⟩
def PmS (I0 : DI) (J0 : DJ) (n w b : Nat) (ws : List (Nat × Nat)) (I : DI) (J : DJ) : Prop := FrM I0 J0 w I J ∧ I 124 29 = -1 ∧ I 124 28 = nI b ∧ b ≤ n ∧ I 124 27 = nI (w + ws.length) ∧ WsM (I0 138) w ws I J ∧ w + ws.length ≤ b
theorem PmS.at {I0 I : DI} {J0 J : DJ} {n w b b' : Nat} {ws : List (Nat × Nat)} (h : PmS I0 J0 n w b ws I J) (hb : b ≤ b') (hn : b' ≤ n) : PmS I0 J0 n w b' ws (u2 I 124 28 (nI b')) J := by
  obtain ⟨h1, h2, h3, h4, h5, h6, h7⟩ := h
  exact ⟨h1.q 28 _ (by decide), by rw [u2_n (by decide)]; exact h2, u2_s, hn, by rw [u2_n (by decide)]; exact h5, h6.q _ _, by omega⟩
theorem PmS.c {I0 I : DI} {J0 J : DJ} {n w b : Nat} {ws : List (Nat × Nat)} (h : PmS I0 J0 n w b ws I J) : I 138 = I0 138 := h.1.1 138 (by decide) (by decide)
theorem PmS.n {I0 I : DI} {J0 J : DJ} {n w b : Nat} {ws : List (Nat × Nat)} (h : PmS I0 J0 n w b ws I J) : I 124 18 = I0 124 18 := h.1.2.1 18 (by decide) (by decide) (by decide)
theorem PmS.word {I0 I I' : DI} {J0 J J' : DJ} {n w b : Nat} {ws : List (Nat × Nat)} (h : PmS I0 J0 n w b ws I J) (q1 : badW (I0 138) n b = false) (q2 : I' = u2 (u2 (u2 I 124 28 (nI (b + lcn (I0 138) n b 8))) 145 (w + ws.length) (nI (lcn (I0 138) n b 8))) 124 27 (nI (w + ws.length + 1))) (q3 : J' = u2 J 144 (w + ws.length) (wM (I0 138) b (lcn (I0 138) n b 8))) : PmS I0 J0 n w (b + lcn (I0 138) n b 8) (ws ++ [(b, lcn (I0 138) n b 8)]) I' J' := by
  obtain ⟨h1, h2, h3, h4, h5, h6, h7⟩ := h
  have hl : ¬ lcn (I0 138) n b 8 = 0 := by
    intro h9
    simp [badW, h9] at q1
  rw [q2, q3]
  refine ⟨((h1.q 28 _ (by decide)).w (by omega) _ _).q 27 _ (by decide), by rw [u2_n (by decide), u2_o (by decide), u2_n (by decide)]; exact h2, by rw [u2_n (by decide), u2_o (by decide), u2_s], lcn_n 8 b h4, by rw [u2_s]; simp [Nat.add_assoc], ((h6.q 28 _).add _ _).q 27 _, by simp; omega⟩
def PmQ (I0 : DI) (J0 : DJ) (n w a : Nat) (I : DI) (J : DJ) : Prop := match phr (I0 138) n a with
  | .inl f => FrM I0 J0 w I J ∧ I 124 29 = nI f ∧ f ≤ n
  | .inr p => PmS I0 J0 n w p.1 p.2 I J
set_option maxHeartbeats 4000000 in
set_option maxRecDepth 100000 in
theorem lpF_Md_takePhrase {C : CT} {l : Launch} {S : ShT} {d : Nat} (hC : OKC C l) (hS : SHP S) (hd : 2 ≤ d) {I0 : DI} {J0 : DJ} {n w a : Nat} (hn40 : n ≤ 40) (hc : Chr (I0 138) n) (hn : I0 124 18 = nI n) {I : DI} {J : DJ} {f : Nat} {x : Int32} (hp : phr (I0 138) n a = .inl f) (hfr : FrM I0 J0 w I J) (h29 : I 124 29 = nI f) (hf : f ≤ n) : V C l k_Md_takePhrase (d, 0, 0) (PW S (PmQ I0 J0 n w a)) 16 [(1, .int x), (0, .ref 124)] [] S I J (0, 0) := by
  refine v_aload_n 1 d_Md_takePhrase_16 rfl rfl rfl ?_
  refine v_geti d_Md_takePhrase_17 fl_Md_148 (hS.o (by decide) rfl) rfl rfl ?_
  refine v_if_ge (tgt := 91) d_Md_takePhrase_20 (by decide) rfl (fun c1 => ?_) (fun c1 => ?_)
  · refine v_aload_n 1 d_Md_takePhrase_91 rfl rfl rfl ?_
    refine v_geti d_Md_takePhrase_92 fl_Md_148 (hS.o (by decide) rfl) rfl rfl ?_
    refine v_if_ge (tgt := 108) d_Md_takePhrase_95 (by decide) rfl (fun c2 => ?_) (fun c2 => ?_)
    · refine v_vret d_Md_takePhrase_108 rfl ?_
      refine ⟨rfl, rfl, ?_⟩
      unfold PmQ
      rw [hp]
      exact ⟨hfr, h29, hf⟩
    · exact absurd (by rw [h29]; exact Int32.not_lt.mp (nI_pos (show f < 2 ^ 31 by omega))) c2
  · exact absurd (by rw [h29]; exact Int32.not_lt.mp (nI_pos (show f < 2 ^ 31 by omega))) c1
set_option maxHeartbeats 4000000 in
set_option maxRecDepth 100000 in
theorem lpG_Md_takePhrase {C : CT} {l : Launch} {S : ShT} {d : Nat} (hC : OKC C l) (hS : SHP S) (hd : 2 ≤ d) {I0 : DI} {J0 : DJ} {n w a : Nat} (hn40 : n ≤ 40) (hc : Chr (I0 138) n) (hn : I0 124 18 = nI n) {I : DI} {J : DJ} {f p : Nat} {x : Int32} (hp : phr (I0 138) n a = .inl f) (hfr : FrM I0 J0 w I J) (h29 : I 124 29 = nI f) (hf : f ≤ n) (h28 : I 124 28 = nI p) (hpn : p ≤ n) : V C l k_Md_takePhrase (d, 0, 0) (PW S (PmQ I0 J0 n w a)) 84 [(1, .int x), (0, .ref 124)] [] S I J (0, 0) := by
  refine v_aload_n 1 d_Md_takePhrase_84 rfl rfl rfl ?_
  refine v_cVu (as := []) d_Md_takePhrase_85 cs_Md_157 (c_Md_blanks hC hS (d := d - 1) (n := n) (a := p) hn40 hpn (by rw [hfr.2.1 18 (by decide) (by decide) (by decide)]; exact hn) h28 (by omega)) (hS.o (by decide) rfl) (by decide) rfl rfl rfl (by decide) (by omega) rfl (fun I9 hk => ?_)
  refine v_goto (tgt := 16) d_Md_takePhrase_88 (by decide) ?_
  exact lpF_Md_takePhrase hC hS hd hn40 hc hn hp (by rw [hk]; exact hfr.q 28 _ (by decide)) (by rw [hk, u2_n (by decide)]; exact h29) hf
set_option maxHeartbeats 4000000 in
set_option maxRecDepth 100000 in
theorem lpH_Md_takePhrase {C : CT} {l : Launch} {S : ShT} {d : Nat} (hC : OKC C l) (hS : SHP S) (hd : 2 ≤ d) {I0 : DI} {J0 : DJ} {n w a : Nat} (hn40 : n ≤ 40) (hc : Chr (I0 138) n) (hn : I0 124 18 = nI n) {I : DI} {J : DJ} {f p : Nat} {x : Int32} (hp : phr (I0 138) n a = .inl f) (hfr : FrM I0 J0 w I J) (h29 : I 124 29 = nI f) (hf : f ≤ n) (h28 : I 124 28 = nI p) (hpn : p ≤ n) : V C l k_Md_takePhrase (d, 0, 0) (PW S (PmQ I0 J0 n w a)) 55 [(1, .int x), (0, .ref 124)] [] S I J (0, 0) := by
  refine v_aload_n 1 d_Md_takePhrase_55 rfl rfl rfl ?_
  refine v_geti d_Md_takePhrase_56 fl_Md_148 (hS.o (by decide) rfl) rfl rfl ?_
  refine v_if_ge (tgt := 84) d_Md_takePhrase_59 (by decide) rfl (fun c1 => ?_) (fun c1 => ?_)
  · exact lpG_Md_takePhrase hC hS hd hn40 hc hn hp hfr h29 hf h28 hpn
  · exact absurd (by rw [h29]; exact Int32.not_lt.mp (nI_pos (show f < 2 ^ 31 by omega))) c1
set_option maxHeartbeats 4000000 in
set_option maxRecDepth 100000 in
theorem lp_Md_takePhrase {C : CT} {l : Launch} {S : ShT} {d : Nat} (hC : OKC C l) (hS : SHP S) (hd : 2 ≤ d) {I0 : DI} {J0 : DJ} {n w a : Nat} (hn40 : n ≤ 40) (hc : Chr (I0 138) n) (hn : I0 124 18 = nI n) : ∀ (n0 t b : Nat) (ws : List (Nat × Nat)) (I : DI) (J : DJ) (x : Int32), x = nI t → t = ws.length → t ≤ 4 → 4 < t + n0 → phF (I0 138) n 4 (skb (I0 138) n a) [] = phF (I0 138) n (4 - t) b ws → PmS I0 J0 n w b ws I J → V C l k_Md_takePhrase (d, 0, 0) (PW S (PmQ I0 J0 n w a)) 16 [(1, .int x), (0, .ref 124)] [] S I J (0, 0) := by
  intro n0
  induction n0 with
  | zero =>
    intro t b ws I J x h1 h2 h3 h4
    omega
  | succ n0 ih =>
    intro t b ws I J x ex htw ht hf hr hPS
    have f138 : I 138 = I0 138 := hPS.c
    have hn1 : I 124 18 = nI n := by rw [hPS.n]; exact hn
    have h28 := hPS.2.2.1
    refine v_aload_n 1 d_Md_takePhrase_16 rfl rfl rfl ?_
    refine v_geti d_Md_takePhrase_17 fl_Md_148 (hS.o (by decide) rfl) rfl rfl ?_
    refine v_if_ge (tgt := 91) d_Md_takePhrase_20 (by decide) rfl (fun c1 => ?_) (fun c1 => ?_)
    · exact absurd c1 (by rw [hPS.2.1]; decide)
    · refine v_aload_n 1 d_Md_takePhrase_23 rfl rfl rfl ?_
      refine v_cVp (as := []) d_Md_takePhrase_24 cs_Md_144 (c_Md_now hC hS (d := d - 1) (n := n) (a := b) hn40 hPS.2.2.2.1 hn1 hPS.2.2.1 (by omega)) (hS.o (by decide) rfl) (by decide) rfl rfl rfl (by decide) (by omega) rfl ?_
      refine v_bipush (v := 34) d_Md_takePhrase_27 (by decide) rfl ?_
      refine v_icmp_ne (tgt := 36) d_Md_takePhrase_29 (by decide) rfl (fun c2 => ?_) (fun c2 => ?_)
      · have hor : ws = [] ∨ ¬ nx (I0 138) n b = 34 := Or.inr (fun h9 => c2 (by rw [f138]; exact (nw_eq).mpr h9))
        refine v_iload_n 0 d_Md_takePhrase_36 rfl rfl rfl ?_
        refine v_iconst (v := 4) d_Md_takePhrase_37 (by decide) rfl ?_
        refine v_icmp_ne (tgt := 48) d_Md_takePhrase_38 (by decide) rfl (fun c3 => ?_) (fun c3 => ?_)
        · have ht4 : t < 4 := by rcases Nat.lt_or_ge t 4 with h9 | h9; exact h9; exact absurd (by rw [ex, show t = 4 by omega]; rfl) c3
          refine v_aload_n 1 d_Md_takePhrase_48 rfl rfl rfl ?_
          refine v_cVw (as := []) d_Md_takePhrase_49 cs_Md_160 (c_Md_takeWord hC hS (d := d - 1) (n := n) (a := b) (w := w + ws.length) hn40 hPS.2.2.2.1 (by rw [f138]; exact hc) hn1 hPS.2.2.1 hPS.2.2.2.2.1 (by have := hPS.2.2.2.2.2.2; have := hPS.2.2.2.1; omega) hPS.2.1 (by omega)) (hS.o (by decide) rfl) (by decide) rfl rfl rfl (by decide) (by omega) rfl (fun I1 J1 hw => ?_)
          rcases id hw with ⟨q1, q2, q3⟩ | ⟨q1, q2, q3⟩
          · rw [f138] at q1 q2
            obtain ⟨x4, ex4⟩ : ∃ y : Int32, y = x + 1 := ⟨_, rfl⟩
            have nx4 : x4 = nI (t + 1) := by rw [ex4, show x = nI t from ex]; exact nI_1 _
            refine v_iinc (n := 0) (v := x4) (L' := [(1, .int x4), (0, .ref 124)]) d_Md_takePhrase_52 rfl (by rw [ex4]; rfl) (by decide) rfl rfl ?_
            have hph : phr (I0 138) n a = .inl (b + lcn (I0 138) n b 8) := by
              by_cases hL : isLt (nx (I0 138) n b) = true
              · exact phr_some (b := b) (ws := ws) (by rw [hr, show 4 - t = (4 - (t + 1)) + 1 by omega, phF_s, if_pos hL, if_pos q1])
              · rw [phr_none (b := b) (ws := ws) (by rw [hr, show 4 - t = (4 - (t + 1)) + 1 by omega, phF_s, if_neg hL]), if_pos hor, show lcn (I0 138) n b 8 = 0 by rw [lcn_s, if_neg hL]]; rfl
            exact lpH_Md_takePhrase hC hS hd hn40 hc hn hph (by rw [q2, q3]; exact (hPS.1.q 28 _ (by decide)).q 29 _ (by decide)) (by rw [q2, u2_s]) (lcn_n 8 b hPS.2.2.2.1) (p := b + lcn (I0 138) n b 8) (by rw [q2, u2_n (by decide), u2_s]) (lcn_n 8 b hPS.2.2.2.1)
          · rw [f138] at q1 q2 q3
            have hP1 := hPS.word q1 q2 q3
            have f138b : I1 138 = I0 138 := hP1.c
            have hn2 : I1 124 18 = nI n := by rw [hP1.n]; exact hn
            have hnl : isLt (nx (I0 138) n (b + lcn (I0 138) n b 8)) = false := by have h9 := q1; simp only [badW, Bool.or_eq_false_iff] at h9; exact h9.2
            have hL : isLt (nx (I0 138) n b) = true := by cases h9 : isLt (nx (I0 138) n b) with | true => rfl | false => (have h8 := q1; simp [badW, lcn_s, h9] at h8)
            obtain ⟨x5, ex5⟩ : ∃ y : Int32, y = x + 1 := ⟨_, rfl⟩
            have nx5 : x5 = nI (t + 1) := by rw [ex5, show x = nI t from ex]; exact nI_1 _
            refine v_iinc (n := 0) (v := x5) (L' := [(1, .int x5), (0, .ref 124)]) d_Md_takePhrase_52 rfl (by rw [ex5]; rfl) (by decide) rfl rfl ?_
            refine v_aload_n 1 d_Md_takePhrase_55 rfl rfl rfl ?_
            refine v_geti d_Md_takePhrase_56 fl_Md_148 (hS.o (by decide) rfl) rfl rfl ?_
            refine v_if_ge (tgt := 84) d_Md_takePhrase_59 (by decide) rfl (fun c6 => ?_) (fun c6 => ?_)
            · exact absurd c6 (by rw [hP1.2.1]; decide)
            · refine v_aload_n 1 d_Md_takePhrase_62 rfl rfl rfl ?_
              refine v_cVp (as := []) d_Md_takePhrase_63 cs_Md_144 (c_Md_now hC hS (d := d - 1) (n := n) (a := (b + lcn (I0 138) n b 8)) hn40 hP1.2.2.2.1 hn2 hP1.2.2.1 (by omega)) (hS.o (by decide) rfl) (by decide) rfl rfl rfl (by decide) (by omega) rfl ?_
              refine v_bipush (v := 32) d_Md_takePhrase_66 (by decide) rfl ?_
              refine v_icmp_eq (tgt := 84) d_Md_takePhrase_68 (by decide) rfl (fun c7 => ?_) (fun c7 => ?_)
              · refine v_aload_n 1 d_Md_takePhrase_84 rfl rfl rfl ?_
                refine v_cVu (as := []) d_Md_takePhrase_85 cs_Md_157 (c_Md_blanks hC hS (d := d - 1) (n := n) (a := b + lcn (I0 138) n b 8) hn40 hP1.2.2.2.1 (by rw [hP1.n]; exact hn) hP1.2.2.1 (by omega)) (hS.o (by decide) rfl) (by decide) rfl rfl rfl (by decide) (by omega) rfl (fun I9 hk => ?_)
                refine v_goto (tgt := 16) d_Md_takePhrase_88 (by decide) ?_
                rw [f138b] at hk
                have hP2 := hP1.at (skb_le (c := I0 138) hP1.2.2.2.1).1 (skb_le hP1.2.2.2.1).2
                rw [← hk] at hP2
                exact ih (t + 1) _ _ _ _ _ nx5 (by rw [htw]; simp) (by omega) (by omega) (by rw [hr, show 4 - t = (4 - (t + 1)) + 1 by omega, phF_s, if_pos hL, if_neg (by rw [q1]; decide)]) hP2
              · refine v_aload_n 1 d_Md_takePhrase_71 rfl rfl rfl ?_
                refine v_cVp (as := []) d_Md_takePhrase_72 cs_Md_144 (c_Md_now hC hS (d := d - 1) (n := n) (a := (b + lcn (I0 138) n b 8)) hn40 hP1.2.2.2.1 hn2 hP1.2.2.1 (by omega)) (hS.o (by decide) rfl) (by decide) rfl rfl rfl (by decide) (by omega) rfl ?_
                refine v_bipush (v := 34) d_Md_takePhrase_75 (by decide) rfl ?_
                refine v_icmp_eq (tgt := 84) d_Md_takePhrase_77 (by decide) rfl (fun c8 => ?_) (fun c8 => ?_)
                · refine v_aload_n 1 d_Md_takePhrase_84 rfl rfl rfl ?_
                  refine v_cVu (as := []) d_Md_takePhrase_85 cs_Md_157 (c_Md_blanks hC hS (d := d - 1) (n := n) (a := b + lcn (I0 138) n b 8) hn40 hP1.2.2.2.1 (by rw [hP1.n]; exact hn) hP1.2.2.1 (by omega)) (hS.o (by decide) rfl) (by decide) rfl rfl rfl (by decide) (by omega) rfl (fun I9 hk => ?_)
                  refine v_goto (tgt := 16) d_Md_takePhrase_88 (by decide) ?_
                  rw [f138b] at hk
                  have hP2 := hP1.at (skb_le (c := I0 138) hP1.2.2.2.1).1 (skb_le hP1.2.2.2.1).2
                  rw [← hk] at hP2
                  exact ih (t + 1) _ _ _ _ _ nx5 (by rw [htw]; simp) (by omega) (by omega) (by rw [hr, show 4 - t = (4 - (t + 1)) + 1 by omega, phF_s, if_pos hL, if_neg (by rw [q1]; decide)]) hP2
                · refine v_aload_n 1 d_Md_takePhrase_80 rfl rfl rfl ?_
                  refine v_cVu (as := []) d_Md_takePhrase_81 cs_Md_151 (c_Md_blame hC hS (d := d - 1) (by omega)) (hS.o (by decide) rfl) (by decide) rfl rfl rfl (by decide) (by omega) rfl (fun Ib hbl => ?_)
                  rw [if_pos (by rw [hP1.2.1]; decide)] at hbl
                  have hno : ¬ nx (I0 138) n (b + lcn (I0 138) n b 8) = 32 := fun h9 => c7 (by rw [f138b]; exact (nw_eq).mpr h9)
                  have hno2 : ¬ nx (I0 138) n (b + lcn (I0 138) n b 8) = 34 := fun h9 => c8 (by rw [f138b]; exact (nw_eq).mpr h9)
                  have hsk : skb (I0 138) n (b + lcn (I0 138) n b 8) = b + lcn (I0 138) n b 8 := by rcases skb_id hno with h9 | h9; exact h9; exact skb_n h9
                  have hph : phr (I0 138) n a = .inl (b + lcn (I0 138) n b 8) := by
                    rw [phr_none (b := b + lcn (I0 138) n b 8) (ws := ws ++ [(b, lcn (I0 138) n b 8)]) ?_, if_pos (Or.inr hno2)]
                    rw [hr, show 4 - t = (4 - (t + 1)) + 1 by omega, phF_s, if_pos hL, if_neg (by rw [q1]; decide), hsk]
                    cases 4 - (t + 1) with
                    | zero => rfl
                    | succ k9 => rw [phF_s, if_neg (by rw [hnl]; decide)]
                  exact lpG_Md_takePhrase hC hS hd hn40 hc hn hph (by rw [hbl]; exact hP1.1.q 29 _ (by decide)) (by rw [hbl, u2_s]; exact hP1.2.2.1) hP1.2.2.2.1 (p := b + lcn (I0 138) n b 8) (by rw [hbl, u2_n (by decide)]; exact hP1.2.2.1) hP1.2.2.2.1
        · have ht4 : t = 4 := (nI_eq (b := 4) (by omega) (by decide)).mp (by rw [← ex]; exact c3)
          have hph : phr (I0 138) n a = .inl b := by rw [phr_none (b := b) (ws := ws) (by rw [hr, ht4]; rfl), if_pos hor]
          refine v_aload_n 1 d_Md_takePhrase_41 rfl rfl rfl ?_
          refine v_cVu (as := []) d_Md_takePhrase_42 cs_Md_151 (c_Md_blame hC hS (d := d - 1) (by omega)) (hS.o (by decide) rfl) (by decide) rfl rfl rfl (by decide) (by omega) rfl (fun Ib hbl => ?_)
          refine v_goto (tgt := 52) d_Md_takePhrase_45 (by decide) ?_
          obtain ⟨x9, ex9⟩ : ∃ y : Int32, y = x + 1 := ⟨_, rfl⟩
          have nx9 : x9 = nI (t + 1) := by rw [ex9, show x = nI t from ex]; exact nI_1 _
          refine v_iinc (n := 0) (v := x9) (L' := [(1, .int x9), (0, .ref 124)]) d_Md_takePhrase_52 rfl (by rw [ex9]; rfl) (by decide) rfl rfl ?_
          rw [if_pos (by rw [hPS.2.1]; decide)] at hbl
          exact lpH_Md_takePhrase hC hS hd hn40 hc hn hph (by rw [hbl]; exact hPS.1.q 29 _ (by decide)) (by rw [hbl, u2_s]; exact hPS.2.2.1) hPS.2.2.2.1 (p := b) (by rw [hbl, u2_n (by decide)]; exact hPS.2.2.1) hPS.2.2.2.1
      · refine v_iload_n 0 d_Md_takePhrase_32 rfl rfl rfl ?_
        refine v_if_ne (tgt := 91) d_Md_takePhrase_33 (by decide) rfl (fun c10 => ?_) (fun c10 => ?_)
        · refine v_aload_n 1 d_Md_takePhrase_91 rfl rfl rfl ?_
          refine v_geti d_Md_takePhrase_92 fl_Md_148 (hS.o (by decide) rfl) rfl rfl ?_
          refine v_if_ge (tgt := 108) d_Md_takePhrase_95 (by decide) rfl (fun c11 => ?_) (fun c11 => ?_)
          · exact absurd c11 (by rw [hPS.2.1]; decide)
          · refine v_aload_n 1 d_Md_takePhrase_98 rfl rfl rfl ?_
            refine v_dup d_Md_takePhrase_99 rfl rfl ?_
            refine v_geti d_Md_takePhrase_100 fl_Md_141 (hS.o (by decide) rfl) rfl rfl ?_
            refine v_iconst (v := 1) d_Md_takePhrase_103 (by decide) rfl ?_
            refine v_iadd d_Md_takePhrase_104 rfl ?_
            refine v_nmi (fun z12 ez12 => ?_)
            have nz12 : z12 = nI (b + 1) := by rw [ez12, show I 124 28 = nI b from h28, show 1 = nI 1 from rfl]; exact nI_add _ _
            refine v_puti d_Md_takePhrase_105 fl_Md_141 (hS.o (by decide) rfl) rfl rfl rfl ?_
            generalize hI13 : u2 I 124 28 z12 = I13
            refine v_vret d_Md_takePhrase_108 rfl ?_
            have hq : nx (I0 138) n b = 34 := (nw_eq).mp (by rw [← f138]; exact c2)
            have hws : ¬ ws = [] := fun h9 => c10 (by rw [ex, htw, h9]; rfl)
            have hph : phr (I0 138) n a = .inr (b + 1, ws) := by
              rw [phr_none (b := b) (ws := ws) ?_, if_neg (by rintro (h9 | h9); exact hws h9; exact h9 hq)]
              rw [hr]
              cases 4 - t with
              | zero => rfl
              | succ k9 => rw [phF_s, if_neg (by rw [hq]; decide)]
            refine ⟨rfl, rfl, ?_⟩
            unfold PmQ
            rw [hph]
            have h9 := hPS.at (b' := b + 1) (by omega) (isQ_lt hq)
            rw [← nz12, hI13] at h9
            exact h9
        · have hor : ws = [] ∨ ¬ nx (I0 138) n b = 34 := Or.inl (List.eq_nil_of_length_eq_zero (by rw [← htw]; exact (nI_eq (b := 0) (by omega) (by decide)).mp (by rw [← ex]; exact c10)))
          have ht0 : t = 0 := (nI_eq (b := 0) (by omega) (by decide)).mp (by rw [← ex]; exact c10)
          refine v_iload_n 0 d_Md_takePhrase_36 rfl rfl rfl ?_
          refine v_iconst (v := 4) d_Md_takePhrase_37 (by decide) rfl ?_
          refine v_icmp_ne (tgt := 48) d_Md_takePhrase_38 (by decide) rfl (fun c14 => ?_) (fun c14 => ?_)
          · have ht4 : t < 4 := by rcases Nat.lt_or_ge t 4 with h9 | h9; exact h9; exact absurd (by rw [ex, show t = 4 by omega]; rfl) c14
            refine v_aload_n 1 d_Md_takePhrase_48 rfl rfl rfl ?_
            refine v_cVw (as := []) d_Md_takePhrase_49 cs_Md_160 (c_Md_takeWord hC hS (d := d - 1) (n := n) (a := b) (w := w + ws.length) hn40 hPS.2.2.2.1 (by rw [f138]; exact hc) hn1 hPS.2.2.1 hPS.2.2.2.2.1 (by have := hPS.2.2.2.2.2.2; have := hPS.2.2.2.1; omega) hPS.2.1 (by omega)) (hS.o (by decide) rfl) (by decide) rfl rfl rfl (by decide) (by omega) rfl (fun I1 J1 hw => ?_)
            rcases id hw with ⟨q1, q2, q3⟩ | ⟨q1, q2, q3⟩
            · rw [f138] at q1 q2
              obtain ⟨x15, ex15⟩ : ∃ y : Int32, y = x + 1 := ⟨_, rfl⟩
              have nx15 : x15 = nI (t + 1) := by rw [ex15, show x = nI t from ex]; exact nI_1 _
              refine v_iinc (n := 0) (v := x15) (L' := [(1, .int x15), (0, .ref 124)]) d_Md_takePhrase_52 rfl (by rw [ex15]; rfl) (by decide) rfl rfl ?_
              have hph : phr (I0 138) n a = .inl (b + lcn (I0 138) n b 8) := by
                by_cases hL : isLt (nx (I0 138) n b) = true
                · exact phr_some (b := b) (ws := ws) (by rw [hr, show 4 - t = (4 - (t + 1)) + 1 by omega, phF_s, if_pos hL, if_pos q1])
                · rw [phr_none (b := b) (ws := ws) (by rw [hr, show 4 - t = (4 - (t + 1)) + 1 by omega, phF_s, if_neg hL]), if_pos hor, show lcn (I0 138) n b 8 = 0 by rw [lcn_s, if_neg hL]]; rfl
              exact lpH_Md_takePhrase hC hS hd hn40 hc hn hph (by rw [q2, q3]; exact (hPS.1.q 28 _ (by decide)).q 29 _ (by decide)) (by rw [q2, u2_s]) (lcn_n 8 b hPS.2.2.2.1) (p := b + lcn (I0 138) n b 8) (by rw [q2, u2_n (by decide), u2_s]) (lcn_n 8 b hPS.2.2.2.1)
            · rw [f138] at q1 q2 q3
              have hP1 := hPS.word q1 q2 q3
              have f138b : I1 138 = I0 138 := hP1.c
              have hn2 : I1 124 18 = nI n := by rw [hP1.n]; exact hn
              have hnl : isLt (nx (I0 138) n (b + lcn (I0 138) n b 8)) = false := by have h9 := q1; simp only [badW, Bool.or_eq_false_iff] at h9; exact h9.2
              have hL : isLt (nx (I0 138) n b) = true := by cases h9 : isLt (nx (I0 138) n b) with | true => rfl | false => (have h8 := q1; simp [badW, lcn_s, h9] at h8)
              obtain ⟨x16, ex16⟩ : ∃ y : Int32, y = x + 1 := ⟨_, rfl⟩
              have nx16 : x16 = nI (t + 1) := by rw [ex16, show x = nI t from ex]; exact nI_1 _
              refine v_iinc (n := 0) (v := x16) (L' := [(1, .int x16), (0, .ref 124)]) d_Md_takePhrase_52 rfl (by rw [ex16]; rfl) (by decide) rfl rfl ?_
              refine v_aload_n 1 d_Md_takePhrase_55 rfl rfl rfl ?_
              refine v_geti d_Md_takePhrase_56 fl_Md_148 (hS.o (by decide) rfl) rfl rfl ?_
              refine v_if_ge (tgt := 84) d_Md_takePhrase_59 (by decide) rfl (fun c17 => ?_) (fun c17 => ?_)
              · exact absurd c17 (by rw [hP1.2.1]; decide)
              · refine v_aload_n 1 d_Md_takePhrase_62 rfl rfl rfl ?_
                refine v_cVp (as := []) d_Md_takePhrase_63 cs_Md_144 (c_Md_now hC hS (d := d - 1) (n := n) (a := (b + lcn (I0 138) n b 8)) hn40 hP1.2.2.2.1 hn2 hP1.2.2.1 (by omega)) (hS.o (by decide) rfl) (by decide) rfl rfl rfl (by decide) (by omega) rfl ?_
                refine v_bipush (v := 32) d_Md_takePhrase_66 (by decide) rfl ?_
                refine v_icmp_eq (tgt := 84) d_Md_takePhrase_68 (by decide) rfl (fun c18 => ?_) (fun c18 => ?_)
                · refine v_aload_n 1 d_Md_takePhrase_84 rfl rfl rfl ?_
                  refine v_cVu (as := []) d_Md_takePhrase_85 cs_Md_157 (c_Md_blanks hC hS (d := d - 1) (n := n) (a := b + lcn (I0 138) n b 8) hn40 hP1.2.2.2.1 (by rw [hP1.n]; exact hn) hP1.2.2.1 (by omega)) (hS.o (by decide) rfl) (by decide) rfl rfl rfl (by decide) (by omega) rfl (fun I9 hk => ?_)
                  refine v_goto (tgt := 16) d_Md_takePhrase_88 (by decide) ?_
                  rw [f138b] at hk
                  have hP2 := hP1.at (skb_le (c := I0 138) hP1.2.2.2.1).1 (skb_le hP1.2.2.2.1).2
                  rw [← hk] at hP2
                  exact ih (t + 1) _ _ _ _ _ nx16 (by rw [htw]; simp) (by omega) (by omega) (by rw [hr, show 4 - t = (4 - (t + 1)) + 1 by omega, phF_s, if_pos hL, if_neg (by rw [q1]; decide)]) hP2
                · refine v_aload_n 1 d_Md_takePhrase_71 rfl rfl rfl ?_
                  refine v_cVp (as := []) d_Md_takePhrase_72 cs_Md_144 (c_Md_now hC hS (d := d - 1) (n := n) (a := (b + lcn (I0 138) n b 8)) hn40 hP1.2.2.2.1 hn2 hP1.2.2.1 (by omega)) (hS.o (by decide) rfl) (by decide) rfl rfl rfl (by decide) (by omega) rfl ?_
                  refine v_bipush (v := 34) d_Md_takePhrase_75 (by decide) rfl ?_
                  refine v_icmp_eq (tgt := 84) d_Md_takePhrase_77 (by decide) rfl (fun c19 => ?_) (fun c19 => ?_)
                  · refine v_aload_n 1 d_Md_takePhrase_84 rfl rfl rfl ?_
                    refine v_cVu (as := []) d_Md_takePhrase_85 cs_Md_157 (c_Md_blanks hC hS (d := d - 1) (n := n) (a := b + lcn (I0 138) n b 8) hn40 hP1.2.2.2.1 (by rw [hP1.n]; exact hn) hP1.2.2.1 (by omega)) (hS.o (by decide) rfl) (by decide) rfl rfl rfl (by decide) (by omega) rfl (fun I9 hk => ?_)
                    refine v_goto (tgt := 16) d_Md_takePhrase_88 (by decide) ?_
                    rw [f138b] at hk
                    have hP2 := hP1.at (skb_le (c := I0 138) hP1.2.2.2.1).1 (skb_le hP1.2.2.2.1).2
                    rw [← hk] at hP2
                    exact ih (t + 1) _ _ _ _ _ nx16 (by rw [htw]; simp) (by omega) (by omega) (by rw [hr, show 4 - t = (4 - (t + 1)) + 1 by omega, phF_s, if_pos hL, if_neg (by rw [q1]; decide)]) hP2
                  · refine v_aload_n 1 d_Md_takePhrase_80 rfl rfl rfl ?_
                    refine v_cVu (as := []) d_Md_takePhrase_81 cs_Md_151 (c_Md_blame hC hS (d := d - 1) (by omega)) (hS.o (by decide) rfl) (by decide) rfl rfl rfl (by decide) (by omega) rfl (fun Ib hbl => ?_)
                    rw [if_pos (by rw [hP1.2.1]; decide)] at hbl
                    have hno : ¬ nx (I0 138) n (b + lcn (I0 138) n b 8) = 32 := fun h9 => c18 (by rw [f138b]; exact (nw_eq).mpr h9)
                    have hno2 : ¬ nx (I0 138) n (b + lcn (I0 138) n b 8) = 34 := fun h9 => c19 (by rw [f138b]; exact (nw_eq).mpr h9)
                    have hsk : skb (I0 138) n (b + lcn (I0 138) n b 8) = b + lcn (I0 138) n b 8 := by rcases skb_id hno with h9 | h9; exact h9; exact skb_n h9
                    have hph : phr (I0 138) n a = .inl (b + lcn (I0 138) n b 8) := by
                      rw [phr_none (b := b + lcn (I0 138) n b 8) (ws := ws ++ [(b, lcn (I0 138) n b 8)]) ?_, if_pos (Or.inr hno2)]
                      rw [hr, show 4 - t = (4 - (t + 1)) + 1 by omega, phF_s, if_pos hL, if_neg (by rw [q1]; decide), hsk]
                      cases 4 - (t + 1) with
                      | zero => rfl
                      | succ k9 => rw [phF_s, if_neg (by rw [hnl]; decide)]
                    exact lpG_Md_takePhrase hC hS hd hn40 hc hn hph (by rw [hbl]; exact hP1.1.q 29 _ (by decide)) (by rw [hbl, u2_s]; exact hP1.2.2.1) hP1.2.2.2.1 (p := b + lcn (I0 138) n b 8) (by rw [hbl, u2_n (by decide)]; exact hP1.2.2.1) hP1.2.2.2.1
          · exact absurd c14 (by rw [ex, ht0]; decide)
set_option maxHeartbeats 4000000 in
set_option maxRecDepth 100000 in
theorem c_Md_takePhrase {C : CT} {l : Launch} {S : ShT} {I : DI} {J : DJ} {d : Nat} (hC : OKC C l) (hS : SHP S) {n a w : Nat} (hn40 : n ≤ 40) (hqn : a + 1 ≤ n) (hc : Chr (I 138) n) (hn : I 124 18 = nI n) (ha : I 124 28 = nI a) (hw : I 124 27 = nI w) (hwa : w ≤ a) (hwr : I 124 29 = -1) (hd : 2 ≤ d) : Sp C l k_Md_takePhrase y_Md_takePhrase (d, 0, 0) [.ref 124] S I J (PW S (PmQ I J n w (a + 1))) := by
  refine Sp.of hC cd_Md_takePhrase (Nat.le_of_ble_eq_true rfl) ?_
  show V C l k_Md_takePhrase (d, 0, 0) _ 0 [(0, .ref 124)] [] S I J (0, 0)
  refine v_aload_n 0 d_Md_takePhrase_0 rfl rfl rfl ?_
  refine v_dup d_Md_takePhrase_1 rfl rfl ?_
  refine v_geti d_Md_takePhrase_2 fl_Md_141 (hS.o (by decide) rfl) rfl rfl ?_
  refine v_iconst (v := 1) d_Md_takePhrase_5 (by decide) rfl ?_
  refine v_iadd d_Md_takePhrase_6 rfl ?_
  refine v_nmi (fun z1 ez1 => ?_)
  have nz1 : z1 = nI (a + 1) := by rw [ez1, show I 124 28 = nI a from ha, show 1 = nI 1 from rfl]; exact nI_add _ _
  refine v_puti d_Md_takePhrase_7 fl_Md_141 (hS.o (by decide) rfl) rfl rfl rfl ?_
  generalize hI2 : u2 I 124 28 z1 = I2
  refine v_aload_n 0 d_Md_takePhrase_10 rfl rfl rfl ?_
  refine v_cVu (as := []) d_Md_takePhrase_11 cs_Md_157 (c_Md_blanks hC hS (d := d - 1) (n := n) (a := a + 1) hn40 hqn (by rw [← hI2, u2_n (by decide)]; exact hn) (by rw [← hI2, u2_s]; exact nz1) (by omega)) (hS.o (by decide) rfl) (by decide) rfl rfl rfl (by decide) (by omega) rfl (fun I9 hk => ?_)
  refine v_iconst (v := 0) d_Md_takePhrase_14 (by decide) rfl ?_
  refine v_istore_n (L' := [(1, .int 0), (0, .ref 124)]) d_Md_takePhrase_15 rfl (by decide) rfl rfl ?_
  rw [show I2 138 = I 138 by rw [← hI2, u2_o (by decide)]] at hk
  have hP0 : PmS I J n w a [] I J := ⟨FrM.rf, hwr, ha, by omega, hw, fun i s l hi => by simp at hi, hwa⟩
  have hP2 := hP0.at (b' := skb (I 138) n (a + 1)) (by have := (skb_le (c := I 138) hqn).1; omega) (skb_le hqn).2
  rw [show u2 I 124 28 (nI (skb (I 138) n (a + 1))) = I9 by rw [hk, ← hI2, u2_u2]] at hP2
  exact lp_Md_takePhrase hC hS hd hn40 hc hn 5 0 _ [] _ _ _ rfl rfl (by omega) (by omega) rfl hP2
