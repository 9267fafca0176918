/-! ===== THE MODEL, 7: the query's text ===== -/
def nwM (c : Nat → Int32) (n a : Nat) : Int32 := if a < n then c a else -1
/-- the characters of the text are such as can be typed -/
def Chr (c : Nat → Int32) (n : Nat) : Prop := ∀ i, i < n → isCd (c i) = true
theorem Chr.ge {c : Nat → Int32} {n i : Nat} (h : Chr c n) (hi : i < n) : ¬ c i < 32 := by
  have h1 := h i hi
  simp only [isCd, Bool.and_eq_true, Bool.not_eq_true', decide_eq_false_iff_not] at h1
  exact h1.1
theorem Chr.n0 {c : Nat → Int32} {n i : Nat} (h : Chr c n) (hi : i < n) : ¬ c i = 0 := fun h9 => h.ge hi (by rw [h9]; decide)
theorem Chr.pos {c : Nat → Int32} {n i : Nat} (h : Chr c n) (hi : i < n) : ¬ c i < 0 := fun h9 => h.ge hi (Int32.lt_trans h9 (by decide))
theorem nw_eq {c : Nat → Int32} {n a : Nat} {x : Int32} (hx : ¬ x = 0 := by decide) (hy : ¬ x = -1 := by decide) : nwM c n a = x ↔ nx c n a = x := by
  unfold nwM nx
  by_cases h : a < n
  · rw [if_pos h, if_pos h]
  · rw [if_neg h, if_neg h]
    exact ⟨fun h9 => absurd h9.symm hy, fun h9 => absurd h9.symm hx⟩
theorem nw_neg {c : Nat → Int32} {n a : Nat} (hc : Chr c n) : nwM c n a < 0 ↔ ¬ a < n := by
  unfold nwM
  by_cases h : a < n
  · rw [if_pos h]; exact ⟨fun h9 => absurd h9 (hc.pos h), fun h9 => absurd h h9⟩
  · rw [if_neg h]; exact ⟨fun _ => h, fun _ => by decide⟩
theorem nx_0 {c : Nat → Int32} {n a : Nat} (hc : Chr c n) : nx c n a = 0 ↔ ¬ a < n := by
  unfold nx
  by_cases h : a < n
  · rw [if_pos h]; exact ⟨fun h9 => absurd h9 (hc.n0 h), fun h9 => absurd h h9⟩
  · rw [if_neg h]; exact ⟨fun _ => h, fun _ => rfl⟩
theorem nw_lt {c : Nat → Int32} {n a : Nat} (h : a < n) : nwM c n a = nx c n a := by unfold nwM nx; rw [if_pos h, if_pos h]
set_option maxHeartbeats 4000000 in
set_option maxRecDepth 100000 in
theorem c_Md_now {C : CT} {l : Launch} {S : ShT} {I : DI} {J : DJ} {d : Nat} (hC : OKC C l) (hS : SHP S) {n a : Nat} (hn40 : n ≤ 40) (han : a ≤ n) (hn : I 124 18 = nI n) (ha : I 124 28 = nI a) (hd : 0 ≤ d) : Sp C l k_Md_now y_Md_now (d, 0, 0) [.ref 124] S I J (PP (.int (nwM (I 138) n a)) S I J) := by
  refine Sp.of hC cd_Md_now (Nat.le_of_ble_eq_true rfl) ?_
  show V C l k_Md_now (d, 0, 0) _ 0 [(0, .ref 124)] [] S I J (0, 0)
  refine v_aload_n 0 d_Md_now_0 rfl rfl rfl ?_
  refine v_geti d_Md_now_1 fl_Md_141 (hS.o (by decide) rfl) rfl rfl ?_
  refine v_aload_n 0 d_Md_now_4 rfl rfl rfl ?_
  refine v_geti d_Md_now_5 fl_Md_138 (hS.o (by decide) rfl) rfl rfl ?_
  refine v_icmp_ge (tgt := 23) d_Md_now_8 (by decide) rfl (fun c1 => ?_) (fun c1 => ?_)
  · refine v_iconst (v := (-1)) d_Md_now_23 (by decide) rfl ?_
    refine v_iret d_Md_now_24 rfl ?_
    have hge : ¬ a < n := fun h9 => absurd c1 (by rw [hn, ha]; exact nI_ge h9 (by omega))
    exact ⟨by unfold nwM; rw [if_neg hge], rfl, rfl, rfl⟩
  · have hlt : a < n := by rcases Nat.lt_or_ge a n with h9 | h9; exact h9; exact absurd (by rw [hn, ha]; exact nI_le h9 (by omega)) c1
    refine v_aload_n 0 d_Md_now_11 rfl rfl rfl ?_
    refine v_getr (r := 138) d_Md_now_12 fl_Md_51 (hS.o (by decide) rfl) rfl (hS.r (by decide) rfl) rfl ?_
    refine v_aload_n 0 d_Md_now_15 rfl rfl rfl ?_
    refine v_geti d_Md_now_16 fl_Md_141 (hS.o (by decide) rfl) rfl rfl ?_
    refine v_iald (j := a) d_Md_now_19 (hS.a (t := 32) (n := 40) (by decide) rfl) ha (by omega) (by decide) rfl ?_
    refine v_goto (tgt := 24) d_Md_now_20 (by decide) ?_
    refine v_iret d_Md_now_24 rfl ?_
    exact ⟨by unfold nwM; rw [if_pos hlt], rfl, rfl, rfl⟩
set_option maxHeartbeats 4000000 in
set_option maxRecDepth 100000 in
theorem lp_Md_blanks {C : CT} {l : Launch} {S : ShT} {d : Nat} (hC : OKC C l) (hS : SHP S) (hd : 1 ≤ d) {J : DJ} {n : Nat} (hn40 : n ≤ 40) : ∀ (n0 : Nat) (a : Nat) (I : DI), a ≤ n → n < a + n0 → I 124 18 = nI n → I 124 28 = nI a → V C l k_Md_blanks (d, 0, 0) (PU S J (fun I' => I' = u2 I 124 28 (nI (skb (I 138) n a)))) 0 [(0, .ref 124)] [] S I J (0, 0) := by
  intro n0
  induction n0 with
  | zero =>
    intro a I han hf hn ha
    omega
  | succ n0 ih =>
    intro a I han hf hn ha
    refine v_aload_n 0 d_Md_blanks_0 rfl rfl rfl ?_
    refine v_cVp (as := []) d_Md_blanks_1 cs_Md_144 (c_Md_now hC hS (d := d - 1) (n := n) (a := a) hn40 han hn ha (by omega)) (hS.o (by decide) rfl) (by decide) rfl rfl rfl (by decide) (by omega) rfl ?_
    refine v_bipush (v := 32) d_Md_blanks_4 (by decide) rfl ?_
    refine v_icmp_ne (tgt := 22) d_Md_blanks_6 (by decide) rfl (fun c1 => ?_) (fun c1 => ?_)
    · refine v_vret d_Md_blanks_22 rfl ?_
      have hb : ¬ nx (I 138) n a = 32 := fun h9 => c1 ((nw_eq).mpr h9)
      have hsk : skb (I 138) n a = a := by rcases skb_id hb with h9 | h9; exact h9; exact skb_n h9
      exact ⟨rfl, rfl, rfl, by rw [hsk]; exact u2_id ha⟩
    · have hb : nx (I 138) n a = 32 := (nw_eq).mp c1
      have hlt : a < n := isQ_lt hb
      refine v_aload_n 0 d_Md_blanks_9 rfl rfl rfl ?_
      refine v_dup d_Md_blanks_10 rfl rfl ?_
      refine v_geti d_Md_blanks_11 fl_Md_141 (hS.o (by decide) rfl) rfl rfl ?_
      refine v_iconst (v := 1) d_Md_blanks_14 (by decide) rfl ?_
      refine v_iadd d_Md_blanks_15 rfl ?_
      refine v_nmi (fun z2 ez2 => ?_)
      have nz2 : z2 = nI (a + 1) := by rw [ez2, show I 124 28 = nI a from ha, show 1 = nI 1 from rfl]; exact nI_add _ _
      refine v_puti d_Md_blanks_16 fl_Md_141 (hS.o (by decide) rfl) rfl rfl rfl ?_
      generalize hI3 : u2 I 124 28 z2 = I3
      refine v_goto (tgt := 0) d_Md_blanks_19 (by decide) ?_
      have hsk : skb (I 138) n a = skb (I 138) n (a + 1) := by unfold skb; rw [show n - a = (n - (a + 1)) + 1 by omega, skF_s, if_pos (by rw [nx_lt hlt] at hb; exact hb)]
      have h9 := ih (a + 1) I3 hlt (by omega) (by rw [← hI3, u2_n (by decide)]; exact hn) (by rw [← hI3, u2_s]; exact nz2)
      rw [show I3 138 = I 138 by rw [← hI3, u2_o (by decide)], ← hsk] at h9
      rw [show (fun I' => I' = u2 I 124 28 (nI (skb (I 138) n a))) = (fun I' => I' = u2 I3 124 28 (nI (skb (I 138) n a))) by rw [← hI3, u2_u2]]
      exact h9
set_option maxHeartbeats 4000000 in
set_option maxRecDepth 100000 in
theorem c_Md_blanks {C : CT} {l : Launch} {S : ShT} {I : DI} {J : DJ} {d : Nat} (hC : OKC C l) (hS : SHP S) {n a : Nat} (hn40 : n ≤ 40) (han : a ≤ n) (hn : I 124 18 = nI n) (ha : I 124 28 = nI a) (hd : 1 ≤ d) : Sp C l k_Md_blanks y_Md_blanks (d, 0, 0) [.ref 124] S I J (PU S J (fun I' => I' = u2 I 124 28 (nI (skb (I 138) n a)))) := by
  refine Sp.of hC cd_Md_blanks (Nat.le_of_ble_eq_true rfl) ?_
  exact lp_Md_blanks hC hS hd hn40 (n + 1) a I han (by omega) hn ha
set_option maxHeartbeats 4000000 in
set_option maxRecDepth 100000 in
theorem c_Md_blame {C : CT} {l : Launch} {S : ShT} {I : DI} {J : DJ} {d : Nat} (hC : OKC C l) (hS : SHP S) (hd : 0 ≤ d) : Sp C l k_Md_blame y_Md_blame (d, 0, 0) [.ref 124] S I J (PU S J (fun I' => I' = if I 124 29 < 0 then u2 I 124 29 (I 124 28) else I)) := by
  refine Sp.of hC cd_Md_blame (Nat.le_of_ble_eq_true rfl) ?_
  show V C l k_Md_blame (d, 0, 0) _ 0 [(0, .ref 124)] [] S I J (0, 0)
  refine v_aload_n 0 d_Md_blame_0 rfl rfl rfl ?_
  refine v_geti d_Md_blame_1 fl_Md_148 (hS.o (by decide) rfl) rfl rfl ?_
  refine v_if_ge (tgt := 15) d_Md_blame_4 (by decide) rfl (fun c1 => ?_) (fun c1 => ?_)
  · refine v_vret d_Md_blame_15 rfl ?_
    exact ⟨rfl, rfl, rfl, (if_neg (Int32.not_lt.mpr c1)).symm⟩
  · refine v_aload_n 0 d_Md_blame_7 rfl rfl rfl ?_
    refine v_aload_n 0 d_Md_blame_8 rfl rfl rfl ?_
    refine v_geti d_Md_blame_9 fl_Md_141 (hS.o (by decide) rfl) rfl rfl ?_
    refine v_puti d_Md_blame_12 fl_Md_148 (hS.o (by decide) rfl) rfl rfl rfl ?_
    generalize hI2 : u2 I 124 29 (I 124 28) = I2
    refine v_vret d_Md_blame_15 rfl ?_
    exact ⟨rfl, rfl, rfl, (if_pos (Int32.not_le.mp c1)).symm⟩
def TwQ (I : DI) (J : DJ) (n a w : Nat) (I' : DI) (J' : DJ) : Prop :=
  (badW (I 138) n a = true ∧ I' = u2 (u2 I 124 28 (nI (a + lcn (I 138) n a 8))) 124 29 (nI (a + lcn (I 138) n a 8)) ∧ J' = J) ∨
  (badW (I 138) n a = false ∧ I' = u2 (u2 (u2 I 124 28 (nI (a + lcn (I 138) n a 8))) 145 w (nI (lcn (I 138) n a 8))) 124 27 (nI (w + 1)) ∧ J' = u2 J 144 w (wM (I 138) a (lcn (I 138) n a 8)))
theorem u2_self {f : DI} {a k : Nat} {x : Int32} (h : f a k = x) : u2 f a k x = f := (u2_id h).symm
theorem lcn_add {c : Nat → Int32} {n : Nat} : ∀ t a k, t ≤ k → (∀ i, i < t → isLt (nx c n (a + i)) = true) → lcn c n a k = t + lcn c n (a + t) (k - t)
  | 0, a, k, _, _ => by simp
  | t + 1, a, k, h, hl => by
    obtain ⟨k', rfl⟩ : ∃ k', k = k' + 1 := ⟨k - 1, by omega⟩
    rw [lcn_s, if_pos (by have := hl 0 (by omega); rwa [Nat.add_zero] at this), lcn_add t (a + 1) k' (by omega) (fun i hi => by have := hl (i + 1) (by omega); rwa [show a + (i + 1) = a + 1 + i by omega] at this), show a + 1 + t = a + (t + 1) by omega, show k' + 1 - (t + 1) = k' - t by omega]
    omega
set_option maxHeartbeats 4000000 in
set_option maxRecDepth 100000 in
theorem lpE_Md_takeWord {C : CT} {l : Launch} {S : ShT} {d : Nat} (hC : OKC C l) (hS : SHP S) (hd : 1 ≤ d) {I0 : DI} {J : DJ} {n a w : Nat} (hn40 : n ≤ 40) (hc : Chr (I0 138) n) (hn : I0 124 18 = nI n) (hw : I0 124 27 = nI w) (hw6 : w < 60) (hwr : I0 124 29 = -1) {t : Nat} {x : Int32} {v : Int64} (hlc : lcn (I0 138) n a 8 = t) (hat : a + t ≤ n) (ex : x = nI t) (ev : v = wM (I0 138) a t) : V C l k_Md_takeWord (d, 0, 0) (PW S (TwQ I0 J n a w)) 57 [(3, .int x), (1, .long v), (0, .ref 124)] [] S (u2 I0 124 28 (nI (a + t))) J (0, 0) := by
  have f138 : (u2 I0 124 28 (nI (a + t))) 138 = I0 138 := by rw [u2_o (by decide)]
  have hn1 : (u2 I0 124 28 (nI (a + t))) 124 18 = nI n := by rw [u2_n (by decide)]; exact hn
  have ha1 : (u2 I0 124 28 (nI (a + t))) 124 28 = nI (a + t) := u2_s
  have ht8 : t ≤ 8 := by rw [← hlc]; exact lcn_le _ _ 8 a
  refine v_iload_n 0 d_Md_takeWord_57 rfl rfl rfl ?_
  refine v_if_eq (tgt := 78) d_Md_takeWord_58 (by decide) rfl (fun c1 => ?_) (fun c1 => ?_)
  · have hbad : badW (I0 138) n a = true := by unfold badW; rw [hlc, decide_eq_true ((nI_eq (b := 0) (by omega) (by decide)).mp (by rw [← ex]; exact c1))]; rfl
    refine v_aload_n 2 d_Md_takeWord_78 rfl rfl rfl ?_
    refine v_cVu (as := []) d_Md_takeWord_79 cs_Md_151 (c_Md_blame hC hS (d := d - 1) (by omega)) (hS.o (by decide) rfl) (by decide) rfl rfl rfl (by decide) (by omega) rfl (fun Ib hbl => ?_)
    refine v_vret d_Md_takeWord_82 rfl ?_
    refine ⟨rfl, rfl, Or.inl ⟨hbad, ?_, rfl⟩⟩
    rw [hbl, hlc, if_pos (by rw [u2_n (by decide), hwr]; decide), u2_s]
  · refine v_aload_n 2 d_Md_takeWord_61 rfl rfl rfl ?_
    refine v_cVp (as := []) d_Md_takeWord_62 cs_Md_144 (c_Md_now hC hS (d := d - 1) (n := n) (a := (a + t)) hn40 hat hn1 ha1 (by omega)) (hS.o (by decide) rfl) (by decide) rfl rfl rfl (by decide) (by omega) rfl ?_
    refine v_if_lt (tgt := 83) d_Md_takeWord_65 (by decide) rfl (fun c2 => ?_) (fun c2 => ?_)
    · have hnl : isLt (nx (I0 138) n (a + t)) = false := by have h8 := c2; rw [f138, nw_neg hc] at h8; rw [nx_ge h8]; decide
      have hbad : badW (I0 138) n a = false := by unfold badW; rw [hlc, hnl, decide_eq_false (fun h9 => c1 (by rw [ex, h9]; rfl))]; rfl
      have hw1 : (u2 I0 124 28 (nI (a + t))) 124 27 = nI w := by rw [u2_n (by decide)]; exact hw
      refine v_aload_n 2 d_Md_takeWord_83 rfl rfl rfl ?_
      refine v_getr (r := 144) d_Md_takeWord_84 fl_Md_69 (hS.o (by decide) rfl) rfl (hS.r (by decide) rfl) rfl ?_
      refine v_aload_n 2 d_Md_takeWord_87 rfl rfl rfl ?_
      refine v_geti d_Md_takeWord_88 fl_Md_154 (hS.o (by decide) rfl) rfl rfl ?_
      refine v_lload_n 1 d_Md_takeWord_91 rfl rfl rfl ?_
      refine v_last (j := w) d_Md_takeWord_92 (hS.a (t := 34) (n := 60) (by decide) rfl) hw1 (by omega) (by decide) rfl ?_
      generalize hJ3 : u2 J 144 w v = J3
      refine v_aload_n 2 d_Md_takeWord_93 rfl rfl rfl ?_
      refine v_getr (r := 145) d_Md_takeWord_94 fl_Md_72 (hS.o (by decide) rfl) rfl (hS.r (by decide) rfl) rfl ?_
      refine v_aload_n 2 d_Md_takeWord_97 rfl rfl rfl ?_
      refine v_geti d_Md_takeWord_98 fl_Md_154 (hS.o (by decide) rfl) rfl rfl ?_
      refine v_iload_n 0 d_Md_takeWord_101 rfl rfl rfl ?_
      refine v_iast (j := w) d_Md_takeWord_102 (hS.a (t := 32) (n := 60) (by decide) rfl) hw1 (by omega) (by decide) rfl ?_
      generalize hI4 : u2 (u2 I0 124 28 (nI (a + t))) 145 w x = I4
      have hw2 : I4 124 27 = nI w := by rw [← hI4, u2_o (by decide)]; exact hw1
      refine v_aload_n 2 d_Md_takeWord_103 rfl rfl rfl ?_
      refine v_dup d_Md_takeWord_104 rfl rfl ?_
      refine v_geti d_Md_takeWord_105 fl_Md_154 (hS.o (by decide) rfl) rfl rfl ?_
      refine v_iconst (v := 1) d_Md_takeWord_108 (by decide) rfl ?_
      refine v_iadd d_Md_takeWord_109 rfl ?_
      refine v_nmi (fun z5 ez5 => ?_)
      have nz5 : z5 = nI (w + 1) := by rw [ez5, show I4 124 27 = nI w from hw2, show 1 = nI 1 from rfl]; exact nI_add _ _
      refine v_puti d_Md_takeWord_110 fl_Md_154 (hS.o (by decide) rfl) rfl rfl rfl ?_
      generalize hI6 : u2 I4 124 27 z5 = I6
      refine v_vret d_Md_takeWord_113 rfl ?_
      refine ⟨rfl, rfl, Or.inr ⟨hbad, ?_, ?_⟩⟩
      · rw [hlc, ← hI6, nz5, ← hI4, ex]
      · rw [hlc, ← ev, hJ3]
    · have hlt : a + t < n := by rcases Nat.lt_or_ge (a + t) n with h9 | h9; exact h9; exact absurd ((nw_neg (a := a + t) hc).mpr (by omega)) (by have h8 := c2; rw [f138] at h8; exact h8)
      refine v_aload_n 2 d_Md_takeWord_68 rfl rfl rfl ?_
      refine v_cVp (as := []) d_Md_takeWord_69 cs_Md_144 (c_Md_now hC hS (d := d - 1) (n := n) (a := (a + t)) hn40 hat hn1 ha1 (by omega)) (hS.o (by decide) rfl) (by decide) rfl rfl rfl (by decide) (by omega) rfl ?_
      refine v_cSp (as := [.int (nwM ((u2 I0 124 28 (nI (a + t))) 138) n (a + t))]) d_Md_takeWord_72 cs_Md_129 (c_Md_letter hC (d := d - 1) (nwM ((u2 I0 124 28 (nI (a + t))) 138) n (a + t)) (by omega)) rfl rfl (by decide) (by omega) rfl ?_
      refine v_if_le (tgt := 83) d_Md_takeWord_75 (by decide) rfl (fun c7 => ?_) (fun c7 => ?_)
      · have hnl : isLt (nx (I0 138) n (a + t)) = false := by rw [← nw_lt hlt]; cases h7 : isLt (nwM (I0 138) n (a + t)) with | false => rfl | true => exact absurd (ltr_pos _ |>.mpr h7) (by have h8 := c7; rw [f138] at h8; exact Int32.not_lt.mpr h8)
        have hbad : badW (I0 138) n a = false := by unfold badW; rw [hlc, hnl, decide_eq_false (fun h9 => c1 (by rw [ex, h9]; rfl))]; rfl
        have hw1 : (u2 I0 124 28 (nI (a + t))) 124 27 = nI w := by rw [u2_n (by decide)]; exact hw
        refine v_aload_n 2 d_Md_takeWord_83 rfl rfl rfl ?_
        refine v_getr (r := 144) d_Md_takeWord_84 fl_Md_69 (hS.o (by decide) rfl) rfl (hS.r (by decide) rfl) rfl ?_
        refine v_aload_n 2 d_Md_takeWord_87 rfl rfl rfl ?_
        refine v_geti d_Md_takeWord_88 fl_Md_154 (hS.o (by decide) rfl) rfl rfl ?_
        refine v_lload_n 1 d_Md_takeWord_91 rfl rfl rfl ?_
        refine v_last (j := w) d_Md_takeWord_92 (hS.a (t := 34) (n := 60) (by decide) rfl) hw1 (by omega) (by decide) rfl ?_
        generalize hJ8 : u2 J 144 w v = J8
        refine v_aload_n 2 d_Md_takeWord_93 rfl rfl rfl ?_
        refine v_getr (r := 145) d_Md_takeWord_94 fl_Md_72 (hS.o (by decide) rfl) rfl (hS.r (by decide) rfl) rfl ?_
        refine v_aload_n 2 d_Md_takeWord_97 rfl rfl rfl ?_
        refine v_geti d_Md_takeWord_98 fl_Md_154 (hS.o (by decide) rfl) rfl rfl ?_
        refine v_iload_n 0 d_Md_takeWord_101 rfl rfl rfl ?_
        refine v_iast (j := w) d_Md_takeWord_102 (hS.a (t := 32) (n := 60) (by decide) rfl) hw1 (by omega) (by decide) rfl ?_
        generalize hI9 : u2 (u2 I0 124 28 (nI (a + t))) 145 w x = I9
        have hw2 : I9 124 27 = nI w := by rw [← hI9, u2_o (by decide)]; exact hw1
        refine v_aload_n 2 d_Md_takeWord_103 rfl rfl rfl ?_
        refine v_dup d_Md_takeWord_104 rfl rfl ?_
        refine v_geti d_Md_takeWord_105 fl_Md_154 (hS.o (by decide) rfl) rfl rfl ?_
        refine v_iconst (v := 1) d_Md_takeWord_108 (by decide) rfl ?_
        refine v_iadd d_Md_takeWord_109 rfl ?_
        refine v_nmi (fun z10 ez10 => ?_)
        have nz10 : z10 = nI (w + 1) := by rw [ez10, show I9 124 27 = nI w from hw2, show 1 = nI 1 from rfl]; exact nI_add _ _
        refine v_puti d_Md_takeWord_110 fl_Md_154 (hS.o (by decide) rfl) rfl rfl rfl ?_
        generalize hI11 : u2 I9 124 27 z10 = I11
        refine v_vret d_Md_takeWord_113 rfl ?_
        refine ⟨rfl, rfl, Or.inr ⟨hbad, ?_, ?_⟩⟩
        · rw [hlc, ← hI11, nz10, ← hI9, ex]
        · rw [hlc, ← ev, hJ8]
      · have hbad : badW (I0 138) n a = true := by unfold badW; rw [hlc, show isLt (nx (I0 138) n (a + t)) = true by rw [← nw_lt hlt, ← ltr_pos]; have h8 := Int32.not_le.mp c7; rw [f138] at h8; exact h8]; simp
        refine v_aload_n 2 d_Md_takeWord_78 rfl rfl rfl ?_
        refine v_cVu (as := []) d_Md_takeWord_79 cs_Md_151 (c_Md_blame hC hS (d := d - 1) (by omega)) (hS.o (by decide) rfl) (by decide) rfl rfl rfl (by decide) (by omega) rfl (fun Ib hbl => ?_)
        refine v_vret d_Md_takeWord_82 rfl ?_
        refine ⟨rfl, rfl, Or.inl ⟨hbad, ?_, rfl⟩⟩
        rw [hbl, hlc, if_pos (by rw [u2_n (by decide), hwr]; decide), u2_s]
set_option maxHeartbeats 4000000 in
set_option maxRecDepth 100000 in
theorem lp_Md_takeWord {C : CT} {l : Launch} {S : ShT} {d : Nat} (hC : OKC C l) (hS : SHP S) (hd : 1 ≤ d) {I0 : DI} {J : DJ} {n a w : Nat} (hn40 : n ≤ 40) (hc : Chr (I0 138) n) (hn : I0 124 18 = nI n) (hw : I0 124 27 = nI w) (hw6 : w < 60) (hwr : I0 124 29 = -1) : ∀ (n0 : Nat) (t : Nat) (x : Int32) (v : Int64), x = nI t → v = wM (I0 138) a t → t ≤ 8 → a + t ≤ n → (∀ i, i < t → isLt (nx (I0 138) n (a + i)) = true) → 8 < t + n0 → V C l k_Md_takeWord (d, 0, 0) (PW S (TwQ I0 J n a w)) 4 [(3, .int x), (1, .long v), (0, .ref 124)] [] S (u2 I0 124 28 (nI (a + t))) J (0, 0) := by
  intro n0
  induction n0 with
  | zero =>
    intro t x v ex ev ht0 hat hll hf
    omega
  | succ n0 ih =>
    intro t x v ex ev ht0 hat hll hf
    have f138 : (u2 I0 124 28 (nI (a + t))) 138 = I0 138 := by rw [u2_o (by decide)]
    have hn1 : (u2 I0 124 28 (nI (a + t))) 124 18 = nI n := by rw [u2_n (by decide)]; exact hn
    have ha1 : (u2 I0 124 28 (nI (a + t))) 124 28 = nI (a + t) := u2_s
    refine v_iload_n 0 d_Md_takeWord_4 rfl rfl rfl ?_
    refine v_bipush (v := 8) d_Md_takeWord_5 (by decide) rfl ?_
    refine v_icmp_ge (tgt := 57) d_Md_takeWord_7 (by decide) rfl (fun c1 => ?_) (fun c1 => ?_)
    · have ht8 : 8 ≤ t := by rcases Nat.lt_or_ge (t) (8) with h9 | h9; exact absurd c1 (by rw [ex]; exact nI_ge (b := 8) h9 (by omega)); exact h9
      have hlc : lcn (I0 138) n a 8 = t := by rw [lcn_add (c := I0 138) (n := n) t a 8 ht0 hll, show 8 - t = 0 by omega]; rfl
      exact lpE_Md_takeWord hC hS hd hn40 hc hn hw hw6 hwr hlc hat ex ev
    · refine v_aload_n 2 d_Md_takeWord_10 rfl rfl rfl ?_
      refine v_cVp (as := []) d_Md_takeWord_11 cs_Md_144 (c_Md_now hC hS (d := d - 1) (n := n) (a := (a + t)) hn40 hat hn1 ha1 (by omega)) (hS.o (by decide) rfl) (by decide) rfl rfl rfl (by decide) (by omega) rfl ?_
      refine v_if_lt (tgt := 57) d_Md_takeWord_14 (by decide) rfl (fun c2 => ?_) (fun c2 => ?_)
      · have ht8 : t < 8 := by rcases Nat.lt_or_ge (t) (8) with h9 | h9; exact h9; exact absurd (by rw [ex]; exact nI_le (a := 8) h9 (by omega)) c1
        have hlc : lcn (I0 138) n a 8 = t := by rw [lcn_add (c := I0 138) (n := n) t a 8 ht0 hll]; obtain ⟨k9, hk9⟩ : ∃ k9, 8 - t = k9 + 1 := ⟨7 - t, by omega⟩; rw [hk9, lcn_s, if_neg (by have h8 := c2; rw [f138, nw_neg hc] at h8; rw [nx_ge h8]; decide)]; rfl
        exact lpE_Md_takeWord hC hS hd hn40 hc hn hw hw6 hwr hlc hat ex ev
      · have hlt : a + t < n := by rcases Nat.lt_or_ge (a + t) n with h9 | h9; exact h9; exact absurd ((nw_neg (a := a + t) hc).mpr (by omega)) (by have h8 := c2; rw [f138] at h8; exact h8)
        refine v_aload_n 2 d_Md_takeWord_17 rfl rfl rfl ?_
        refine v_cVp (as := []) d_Md_takeWord_18 cs_Md_144 (c_Md_now hC hS (d := d - 1) (n := n) (a := (a + t)) hn40 hat hn1 ha1 (by omega)) (hS.o (by decide) rfl) (by decide) rfl rfl rfl (by decide) (by omega) rfl ?_
        refine v_cSp (as := [.int (nwM ((u2 I0 124 28 (nI (a + t))) 138) n (a + t))]) d_Md_takeWord_21 cs_Md_129 (c_Md_letter hC (d := d - 1) (nwM ((u2 I0 124 28 (nI (a + t))) 138) n (a + t)) (by omega)) rfl rfl (by decide) (by omega) rfl ?_
        refine v_if_le (tgt := 57) d_Md_takeWord_24 (by decide) rfl (fun c3 => ?_) (fun c3 => ?_)
        · have ht8 : t < 8 := by rcases Nat.lt_or_ge (t) (8) with h9 | h9; exact h9; exact absurd (by rw [ex]; exact nI_le (a := 8) h9 (by omega)) c1
          have hlc : lcn (I0 138) n a 8 = t := by rw [lcn_add (c := I0 138) (n := n) t a 8 ht0 hll]; obtain ⟨k9, hk9⟩ : ∃ k9, 8 - t = k9 + 1 := ⟨7 - t, by omega⟩; rw [hk9, lcn_s, if_neg (by rw [← nw_lt hlt, ← ltr_pos]; have h8 := c3; rw [f138] at h8; exact Int32.not_lt.mpr h8)]; rfl
          exact lpE_Md_takeWord hC hS hd hn40 hc hn hw hw6 hwr hlc hat ex ev
        · have hL : isLt (nx (I0 138) n (a + t)) = true := by rw [← nw_lt hlt, ← ltr_pos]; have h8 := Int32.not_le.mp c3; rw [f138] at h8; exact h8
          have ht8 : t < 8 := by rcases Nat.lt_or_ge (t) (8) with h9 | h9; exact h9; exact absurd (by rw [ex]; exact nI_le (a := 8) h9 (by omega)) c1
          refine v_lload_n 1 d_Md_takeWord_27 rfl rfl rfl ?_
          refine v_bipush (v := 8) d_Md_takeWord_28 (by decide) rfl ?_
          refine v_lshl d_Md_takeWord_30 rfl rfl ?_
          refine v_nml (fun z4 ez4 => ?_)
          refine v_aload_n 2 d_Md_takeWord_31 rfl rfl rfl ?_
          refine v_cVp (as := []) d_Md_takeWord_32 cs_Md_144 (c_Md_now hC hS (d := d - 1) (n := n) (a := (a + t)) hn40 hat hn1 ha1 (by omega)) (hS.o (by decide) rfl) (by decide) rfl rfl rfl (by simp [Value.category]) (by omega) rfl ?_
          refine v_cSp (as := [.int (nwM ((u2 I0 124 28 (nI (a + t))) 138) n (a + t))]) d_Md_takeWord_35 cs_Md_129 (c_Md_letter hC (d := d - 1) (nwM ((u2 I0 124 28 (nI (a + t))) 138) n (a + t)) (by omega)) rfl rfl (by simp [Value.category]) (by omega) rfl ?_
          refine v_i2l d_Md_takeWord_38 rfl rfl ?_
          refine v_nml (fun z5 ez5 => ?_)
          refine v_lor d_Md_takeWord_39 rfl ?_
          refine v_nml (fun z6 ez6 => ?_)
          refine v_lstore_n (L' := [(1, .long z6), (3, .int x), (0, .ref 124)]) d_Md_takeWord_40 rfl (by decide) rfl rfl ?_
          obtain ⟨x7, ex7⟩ : ∃ y : Int32, y = x + 1 := ⟨_, rfl⟩
          have nx7 : x7 = nI (t + 1) := by rw [ex7, show x = nI t from ex]; exact nI_1 _
          refine v_iinc (n := 1) (v := x7) (L' := [(3, .int x7), (1, .long z6), (0, .ref 124)]) d_Md_takeWord_41 rfl (by rw [ex7]; rfl) (by decide) rfl rfl ?_
          refine v_aload_n 2 d_Md_takeWord_44 rfl rfl rfl ?_
          refine v_dup d_Md_takeWord_45 rfl rfl ?_
          refine v_geti d_Md_takeWord_46 fl_Md_141 (hS.o (by decide) rfl) rfl rfl ?_
          refine v_iconst (v := 1) d_Md_takeWord_49 (by decide) rfl ?_
          refine v_iadd d_Md_takeWord_50 rfl ?_
          refine v_nmi (fun z8 ez8 => ?_)
          have nz8 : z8 = nI ((a + t) + 1) := by rw [ez8, show (u2 I0 124 28 (nI (a + t))) 124 28 = nI (a + t) from ha1, show 1 = nI 1 from rfl]; exact nI_add _ _
          refine v_puti d_Md_takeWord_51 fl_Md_141 (hS.o (by decide) rfl) rfl rfl rfl ?_
          generalize hI9 : u2 (u2 I0 124 28 (nI (a + t))) 124 28 z8 = I9
          refine v_goto (tgt := 4) d_Md_takeWord_54 (by decide) ?_
          have hst : I9 = u2 I0 124 28 (nI (a + (t + 1))) := by rw [← hI9, nz8, u2_u2]; rfl
          rw [hst]
          exact ih (t + 1) _ _ nx7 (by rw [wM_s, if_pos ht8, ← ev, show I0 138 (a + t) = nwM (I0 138) n (a + t) by unfold nwM; rw [if_pos hlt], ← f138]; subst_vars; rfl) (by omega) (by omega) (fun i hi => by rcases Nat.lt_or_ge i t with h9 | h9; exact hll i h9; rw [show i = t by omega]; exact hL) (by omega)
set_option maxHeartbeats 4000000 in
set_option maxRecDepth 100000 in
theorem c_Md_takeWord {C : CT} {l : Launch} {S : ShT} {I : DI} {J : DJ} {d : Nat} (hC : OKC C l) (hS : SHP S) {n a w : Nat} (hn40 : n ≤ 40) (han : a ≤ n) (hc : Chr (I 138) n) (hn : I 124 18 = nI n) (ha : I 124 28 = nI a) (hw : I 124 27 = nI w) (hw6 : w < 60) (hwr : I 124 29 = -1) (hd : 1 ≤ d) : Sp C l k_Md_takeWord y_Md_takeWord (d, 0, 0) [.ref 124] S I J (PW S (TwQ I J n a w)) := by
  refine Sp.of hC cd_Md_takeWord (Nat.le_of_ble_eq_true rfl) ?_
  show V C l k_Md_takeWord (d, 0, 0) _ 0 [(0, .ref 124)] [] S I J (0, 0)
  refine v_lconst (v := 0) d_Md_takeWord_0 rfl rfl ?_
  refine v_lstore_n (L' := [(1, .long 0), (0, .ref 124)]) d_Md_takeWord_1 rfl (by decide) rfl rfl ?_
  refine v_iconst (v := 0) d_Md_takeWord_2 (by decide) rfl ?_
  refine v_istore_n (L' := [(3, .int 0), (1, .long 0), (0, .ref 124)]) d_Md_takeWord_3 rfl (by decide) rfl rfl ?_
  have h9 := lp_Md_takeWord (S := S) (J := J) (a := a) hC hS hd hn40 hc hn hw hw6 hwr 9 0 0 0 rfl rfl (by omega) han (fun i hi => by omega) (by omega)
  rw [show u2 I 124 28 (nI (a + 0)) = I from u2_self ha] at h9
  exact h9
