/-- the word from a on has a fault: no letter, or a ninth -/
def badW (c : Nat → Int32) (n a : Nat) : Bool := decide (lcn c n a 8 = 0) || isLt (nx c n (a + lcn c n a 8))
/-- what parseWord leaves -/
def PwQ (I : DI) (J : DJ) (i n a s : Nat) (I' : DI) (J' : DJ) : Prop :=
  (badW (I 77) n a = true ∧ I' = u2 (u2 I 76 5 (nI (a + lcn (I 77) n a 8))) 76 6 (nI (a + lcn (I 77) n a 8)) ∧ J' = J) ∨
  (badW (I 77) n a = false ∧ I' = u2 (u2 I 76 5 (nI (a + lcn (I 77) n a 8))) (79 + 2 * i) 1 (nI (s + 1)) ∧ J' = u2 J (80 + 2 * i) s (wC (I 77) a (lcn (I 77) n a 8)))
set_option maxHeartbeats 4000000 in
set_option maxRecDepth 100000 in
theorem lp_Qy_parseWord {C : CT} {l : Launch} {S : ShT} {d : Nat} (hC : OKC C l) (hS : SHP S) (hd : 1 ≤ d) {I0 : DI} {J : DJ} {i n a s : Nat} (hi : i < 21) (hn40 : n ≤ 40) (han : a ≤ n) (hs4 : s < 4) (hn : I0 76 1 = nI n) (hs : I0 (79 + 2 * i) 1 = nI s) : ∀ (n0 : Nat) (t : Nat) (I : DI) (x : Int32) (v : Int64), x = nI t → t ≤ 8 → 8 < t + n0 → a + t ≤ n → v = wC (I0 77) a t → I = u2 I0 76 5 (nI (a + t)) → lcn (I0 77) n a 8 = t + lcn (I0 77) n (a + t) (8 - t) → V C l k_Qy_parseWord (d, 0, 0) (PW S (PwQ I0 J i n a s)) 5 [(4, .int x), (2, .long v), (0, .ref 76), (1, .ref (79 + 2 * i))] [] S I J (0, 0) := by
  intro n0
  induction n0 with
  | zero =>
    intro t I x v ex ht hf hat hv hIe hl
    omega
  | succ n0 ih =>
    intro t I x v ex ht hf hat hv hIe hl
    have hn1 : I 76 1 = nI n := by rw [hIe, u2_n (by decide)]; exact hn
    have ha1 : I 76 5 = nI (a + t) := by rw [hIe, u2_s]
    have hc : I 77 = I0 77 := by rw [hIe, u2_o (by decide)]
    refine v_iload 0 d_Qy_parseWord_5 rfl rfl ?_
    refine v_bipush (v := 8) d_Qy_parseWord_7 (by decide) rfl ?_
    refine v_icmp_ge (tgt := 49) d_Qy_parseWord_9 (by decide) rfl (fun c1 => ?_) (fun c1 => ?_)
    · have hlt8 : lcn (I0 77) n a 8 = t := by have h9 : t = 8 := (by rcases Nat.lt_or_ge t 8 with h9 | h9; exact absurd c1 (by rw [ex]; exact nI_ge (b := 8) h9 (by decide)); omega); rw [hl, h9]; rfl
      refine v_iload 0 d_Qy_parseWord_49 rfl rfl ?_
      refine v_if_eq (tgt := 64) d_Qy_parseWord_51 (by decide) rfl (fun c2 => ?_) (fun c2 => ?_)
      · refine v_aload_n 2 d_Qy_parseWord_64 rfl rfl rfl ?_
        refine v_aload_n 2 d_Qy_parseWord_65 rfl rfl rfl ?_
        refine v_geti d_Qy_parseWord_66 fl_Qy_26 (hS.o (by decide) rfl) rfl rfl ?_
        refine v_puti d_Qy_parseWord_69 fl_Qy_29 (hS.o (by decide) rfl) rfl rfl rfl ?_
        generalize hI3 : u2 I 76 6 (I 76 5) = I3
        refine v_goto (tgt := 80) d_Qy_parseWord_72 (by decide) ?_
        refine v_vret d_Qy_parseWord_80 rfl ?_
        refine ⟨rfl, rfl, Or.inl ⟨(by unfold badW; rw [hlt8, show t = 0 by have h9 := c2; rw [ex] at h9; exact (nI_eq (b := 0) (by omega) (by decide)).mp h9]; rfl), ?_, rfl⟩⟩
        rw [hlt8, ← hI3, ha1, hIe]
      · refine v_aload_n 2 d_Qy_parseWord_54 rfl rfl rfl ?_
        refine v_cVp (as := []) d_Qy_parseWord_55 cs_Qy_45 (c_Qy_next hC hS (d := d - 1) (n := n) (a := (a + t)) hn40 (by omega) hn1 ha1 (by omega)) (hS.o (by decide) rfl) (by decide) rfl rfl rfl (by decide) (by omega) rfl ?_
        refine v_cNp (as := [.int (nx (I 77) n (a + t))]) d_Qy_parseWord_58 cs_Qy_102 (c_Fi_isLetter hC (d := d - 1) (nx (I 77) n (a + t)) (by omega)) rfl rfl (by decide) (by omega) rfl ?_
        refine v_if_eq (tgt := 75) d_Qy_parseWord_61 (by decide) rfl (fun c4 => ?_) (fun c4 => ?_)
        · refine v_aload_n 3 d_Qy_parseWord_75 rfl rfl rfl ?_
          refine v_lload_n 1 d_Qy_parseWord_76 rfl rfl rfl ?_
          refine v_cVw (as := [.long v]) d_Qy_parseWord_77 cs_Qy_112 (c_Tm_add hC hS (d := d - 1) (n := s) hi (by rw [hIe, u2_o (by omega)]; exact hs) hs4 v (by omega)) (hS.tm hi) (by decide) rfl rfl rfl (by decide) (by omega) rfl (fun I6 J7 h5 => ?_)
          refine v_vret d_Qy_parseWord_80 rfl ?_
          obtain ⟨g1, g2⟩ := h5
          refine ⟨rfl, rfl, Or.inr ⟨?_, ?_, ?_⟩⟩
          · unfold badW; rw [hlt8, show isLt (nx (I0 77) n (a + t)) = false by have h9 := c4; rw [hc] at h9; cases h8 : isLt (nx (I0 77) n (a + t)); rfl; rw [h8] at h9; exact absurd h9 (by decide), Bool.or_false]; simp only [decide_eq_false_iff_not]; intro h9; exact c2 (by rw [ex, h9]; rfl)
          · rw [g1, hIe, hlt8]
          · rw [g2, hv, hlt8]
        · refine v_aload_n 2 d_Qy_parseWord_64 rfl rfl rfl ?_
          refine v_aload_n 2 d_Qy_parseWord_65 rfl rfl rfl ?_
          refine v_geti d_Qy_parseWord_66 fl_Qy_26 (hS.o (by decide) rfl) rfl rfl ?_
          refine v_puti d_Qy_parseWord_69 fl_Qy_29 (hS.o (by decide) rfl) rfl rfl rfl ?_
          generalize hI8 : u2 I 76 6 (I 76 5) = I8
          refine v_goto (tgt := 80) d_Qy_parseWord_72 (by decide) ?_
          refine v_vret d_Qy_parseWord_80 rfl ?_
          refine ⟨rfl, rfl, Or.inl ⟨(by unfold badW; rw [hlt8, show isLt (nx (I0 77) n (a + t)) = true by have h9 := c4; rw [hc] at h9; cases h8 : isLt (nx (I0 77) n (a + t)); rw [h8] at h9; exact absurd rfl h9; rfl, Bool.or_true]), ?_, rfl⟩⟩
          rw [hlt8, ← hI8, ha1, hIe]
    · have ht8 : t < 8 := by rcases Nat.lt_or_ge t 8 with h9 | h9; exact h9; exact absurd (by rw [ex]; exact nI_le (a := 8) h9 (by omega)) c1
      refine v_aload_n 2 d_Qy_parseWord_12 rfl rfl rfl ?_
      refine v_cVp (as := []) d_Qy_parseWord_13 cs_Qy_45 (c_Qy_next hC hS (d := d - 1) (n := n) (a := (a + t)) hn40 (by omega) hn1 ha1 (by omega)) (hS.o (by decide) rfl) (by decide) rfl rfl rfl (by decide) (by omega) rfl ?_
      refine v_cNp (as := [.int (nx (I 77) n (a + t))]) d_Qy_parseWord_16 cs_Qy_102 (c_Fi_isLetter hC (d := d - 1) (nx (I 77) n (a + t)) (by omega)) rfl rfl (by decide) (by omega) rfl ?_
      refine v_if_eq (tgt := 49) d_Qy_parseWord_19 (by decide) rfl (fun c9 => ?_) (fun c9 => ?_)
      · have hlt8 : lcn (I0 77) n a 8 = t := by have h9 : isLt (nx (I0 77) n (a + t)) = false := (by have h8 := c9; rw [hc] at h8; cases h7 : isLt (nx (I0 77) n (a + t)); rfl; rw [h7] at h8; exact absurd h8 (by decide)); rw [hl, show 8 - t = (8 - (t + 1)) + 1 by omega, lcn_s, h9]; rfl
        refine v_iload 0 d_Qy_parseWord_49 rfl rfl ?_
        refine v_if_eq (tgt := 64) d_Qy_parseWord_51 (by decide) rfl (fun c10 => ?_) (fun c10 => ?_)
        · refine v_aload_n 2 d_Qy_parseWord_64 rfl rfl rfl ?_
          refine v_aload_n 2 d_Qy_parseWord_65 rfl rfl rfl ?_
          refine v_geti d_Qy_parseWord_66 fl_Qy_26 (hS.o (by decide) rfl) rfl rfl ?_
          refine v_puti d_Qy_parseWord_69 fl_Qy_29 (hS.o (by decide) rfl) rfl rfl rfl ?_
          generalize hI11 : u2 I 76 6 (I 76 5) = I11
          refine v_goto (tgt := 80) d_Qy_parseWord_72 (by decide) ?_
          refine v_vret d_Qy_parseWord_80 rfl ?_
          refine ⟨rfl, rfl, Or.inl ⟨(by unfold badW; rw [hlt8, show t = 0 by have h9 := c10; rw [ex] at h9; exact (nI_eq (b := 0) (by omega) (by decide)).mp h9]; rfl), ?_, rfl⟩⟩
          rw [hlt8, ← hI11, ha1, hIe]
        · refine v_aload_n 2 d_Qy_parseWord_54 rfl rfl rfl ?_
          refine v_cVp (as := []) d_Qy_parseWord_55 cs_Qy_45 (c_Qy_next hC hS (d := d - 1) (n := n) (a := (a + t)) hn40 (by omega) hn1 ha1 (by omega)) (hS.o (by decide) rfl) (by decide) rfl rfl rfl (by decide) (by omega) rfl ?_
          refine v_cNp (as := [.int (nx (I 77) n (a + t))]) d_Qy_parseWord_58 cs_Qy_102 (c_Fi_isLetter hC (d := d - 1) (nx (I 77) n (a + t)) (by omega)) rfl rfl (by decide) (by omega) rfl ?_
          refine v_if_eq (tgt := 75) d_Qy_parseWord_61 (by decide) rfl (fun c12 => ?_) (fun c12 => ?_)
          · refine v_aload_n 3 d_Qy_parseWord_75 rfl rfl rfl ?_
            refine v_lload_n 1 d_Qy_parseWord_76 rfl rfl rfl ?_
            refine v_cVw (as := [.long v]) d_Qy_parseWord_77 cs_Qy_112 (c_Tm_add hC hS (d := d - 1) (n := s) hi (by rw [hIe, u2_o (by omega)]; exact hs) hs4 v (by omega)) (hS.tm hi) (by decide) rfl rfl rfl (by decide) (by omega) rfl (fun I14 J15 h13 => ?_)
            refine v_vret d_Qy_parseWord_80 rfl ?_
            obtain ⟨g1, g2⟩ := h13
            refine ⟨rfl, rfl, Or.inr ⟨?_, ?_, ?_⟩⟩
            · unfold badW; rw [hlt8, show isLt (nx (I0 77) n (a + t)) = false by have h9 := c12; rw [hc] at h9; cases h8 : isLt (nx (I0 77) n (a + t)); rfl; rw [h8] at h9; exact absurd h9 (by decide), Bool.or_false]; simp only [decide_eq_false_iff_not]; intro h9; exact c10 (by rw [ex, h9]; rfl)
            · rw [g1, hIe, hlt8]
            · rw [g2, hv, hlt8]
          · refine v_aload_n 2 d_Qy_parseWord_64 rfl rfl rfl ?_
            refine v_aload_n 2 d_Qy_parseWord_65 rfl rfl rfl ?_
            refine v_geti d_Qy_parseWord_66 fl_Qy_26 (hS.o (by decide) rfl) rfl rfl ?_
            refine v_puti d_Qy_parseWord_69 fl_Qy_29 (hS.o (by decide) rfl) rfl rfl rfl ?_
            generalize hI16 : u2 I 76 6 (I 76 5) = I16
            refine v_goto (tgt := 80) d_Qy_parseWord_72 (by decide) ?_
            refine v_vret d_Qy_parseWord_80 rfl ?_
            refine ⟨rfl, rfl, Or.inl ⟨(by unfold badW; rw [hlt8, show isLt (nx (I0 77) n (a + t)) = true by have h9 := c12; rw [hc] at h9; cases h8 : isLt (nx (I0 77) n (a + t)); rw [h8] at h9; exact absurd rfl h9; rfl, Bool.or_true]), ?_, rfl⟩⟩
            rw [hlt8, ← hI16, ha1, hIe]
      · have hL : isLt (nx (I0 77) n (a + t)) = true := by have h9 := c9; rw [hc] at h9; cases h8 : isLt (nx (I0 77) n (a + t)); rw [h8] at h9; exact absurd rfl h9; rfl
        have hlt : a + t < n := isLt_lt hL
        refine v_lload_n 1 d_Qy_parseWord_22 rfl rfl rfl ?_
        refine v_iload 0 d_Qy_parseWord_23 rfl rfl ?_
        refine v_aload_n 2 d_Qy_parseWord_25 rfl rfl rfl ?_
        refine v_cVp (as := []) d_Qy_parseWord_26 cs_Qy_45 (c_Qy_next hC hS (d := d - 1) (n := n) (a := (a + t)) hn40 (by omega) hn1 ha1 (by omega)) (hS.o (by decide) rfl) (by decide) rfl rfl rfl (by simp [Value.category]) (by omega) rfl ?_
        refine v_cNp (as := [.long v, .int x, .int (nx (I 77) n (a + t))]) d_Qy_parseWord_29 cs_Qy_108 (c_Fi_withLetter hC (d := d - 1) v x (nx (I 77) n (a + t)) (by omega)) rfl rfl (by decide) (by omega) rfl ?_
        refine v_lstore_n (L' := [(2, .long (wiLe v x (nx (I 77) n (a + t)))), (4, .int x), (0, .ref 76), (1, .ref (79 + 2 * i))]) d_Qy_parseWord_32 rfl (by decide) rfl rfl ?_
        obtain ⟨x17, ex17⟩ : ∃ y : Int32, y = x + 1 := ⟨_, rfl⟩
        have nx17 : x17 = nI (t + 1) := by rw [ex17, show x = nI t from ex]; exact nI_1 _
        refine v_iinc (n := 1) (v := x17) (L' := [(4, .int x17), (2, .long (wiLe v x (nx (I 77) n (a + t)))), (0, .ref 76), (1, .ref (79 + 2 * i))]) d_Qy_parseWord_33 rfl (by rw [ex17]; rfl) (by decide) rfl rfl ?_
        refine v_aload_n 2 d_Qy_parseWord_36 rfl rfl rfl ?_
        refine v_dup d_Qy_parseWord_37 rfl rfl ?_
        refine v_geti d_Qy_parseWord_38 fl_Qy_26 (hS.o (by decide) rfl) rfl rfl ?_
        refine v_iconst (v := 1) d_Qy_parseWord_41 (by decide) rfl ?_
        refine v_iadd d_Qy_parseWord_42 rfl ?_
        refine v_nmi (fun z18 ez18 => ?_)
        have nz18 : z18 = nI ((a + t) + 1) := by rw [ez18, show I 76 5 = nI (a + t) from ha1, show 1 = nI 1 from rfl]; exact nI_add _ _
        refine v_puti d_Qy_parseWord_43 fl_Qy_26 (hS.o (by decide) rfl) rfl rfl rfl ?_
        generalize hI19 : u2 I 76 5 z18 = I19
        refine v_goto (tgt := 5) d_Qy_parseWord_46 (by decide) ?_
        refine v_sub (L' := [(4, .int x17), (2, .long (wiLe v x (nx (I 77) n (a + t)))), (0, .ref 76), (1, .ref (79 + 2 * i))]) [0, 1, 2, 3] rfl ?_
        refine ih (t + 1) I19 _ _ nx17 (by omega) (by omega) (by omega) ?_ ?_ ?_
        · rw [wC_s, if_pos ht8, hv, hc, nx_lt hlt, ex]
        · rw [← hI19, hIe, u2_u2, nz18]; rfl
        · rw [hl, show 8 - t = (8 - (t + 1)) + 1 by omega, lcn_s, if_pos hL, Nat.add_assoc a t 1]; omega
set_option maxHeartbeats 4000000 in
set_option maxRecDepth 100000 in
theorem c_Qy_parseWord {C : CT} {l : Launch} {S : ShT} {I : DI} {J : DJ} {d : Nat} (hC : OKC C l) (hS : SHP S) {i n a s : Nat} (hi : i < 21) (hn40 : n ≤ 40) (han : a ≤ n) (hs4 : s < 4) (hn : I 76 1 = nI n) (ha : I 76 5 = nI a) (hs : I (79 + 2 * i) 1 = nI s) (hd : 1 ≤ d) : Sp C l k_Qy_parseWord y_Qy_parseWord (d, 0, 0) [.ref 76, .ref (79 + 2 * i)] S I J (PW S (PwQ I J i n a s)) := by
  refine Sp.of hC cd_Qy_parseWord (Nat.le_of_ble_eq_true rfl) ?_
  show V C l k_Qy_parseWord (d, 0, 0) _ 0 [(0, .ref 76), (1, .ref (79 + 2 * i))] [] S I J (0, 0)
  refine v_lconst (v := 0) d_Qy_parseWord_0 rfl rfl ?_
  refine v_lstore_n (L' := [(2, .long 0), (0, .ref 76), (1, .ref (79 + 2 * i))]) d_Qy_parseWord_1 rfl (by decide) rfl rfl ?_
  refine v_iconst (v := 0) d_Qy_parseWord_2 (by decide) rfl ?_
  refine v_istore (L' := [(4, .int 0), (2, .long 0), (0, .ref 76), (1, .ref (79 + 2 * i))]) d_Qy_parseWord_3 (by decide) rfl rfl ?_
  exact lp_Qy_parseWord hC hS hd hi hn40 han hs4 hn hs 9 0 I 0 0 rfl (by omega) (by omega) (by omega) rfl (u2_id ha) (by simp)
