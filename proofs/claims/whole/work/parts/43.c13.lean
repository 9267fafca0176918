set_option maxHeartbeats 4000000 in
set_option maxRecDepth 100000 in
theorem lp_Qy_parsePhrase {C : CT} {l : Launch} {S : ShT} {d : Nat} (hC : OKC C l) (hS : SHP S) (hd : 2 ≤ d) {I0 : DI} {J0 : DJ} {i n a : Nat} (hi : i < 21) (hn40 : n ≤ 40) (hn : I0 76 1 = nI n) : ∀ (n0 t b : Nat) (ws : List (Nat × Nat)) (I : DI) (J : DJ) (x : Int32), x = nI t → t = ws.length → t ≤ 4 → 4 < t + n0 → phF (I0 77) n 4 (skb (I0 77) n a) [] = phF (I0 77) n (4 - t) b ws → PhS I0 J0 i n b ws I J → V C l k_Qy_parsePhrase (d, 0, 0) (PW S (PhQ I0 J0 i n a)) 6 [(2, .int x), (0, .ref 76), (1, .ref (79 + 2 * i))] [] S I J (0, 0) := by
  intro n0
  induction n0 with
  | zero =>
    intro t b ws I J x h1 h2 h3 h4
    omega
  | succ n0 ih =>
    intro t b ws I J x ex htw ht hf hr hPS
    have hc : I 77 = I0 77 := hPS.1.c hi
    have hn1 : I 76 1 = nI n := by rw [hPS.1.n]; exact hn
    refine v_iload_n 0 d_Qy_parsePhrase_6 rfl rfl rfl ?_
    refine v_iconst (v := 4) d_Qy_parsePhrase_7 (by decide) rfl ?_
    refine v_icmp_ge (tgt := 43) d_Qy_parsePhrase_8 (by decide) rfl (fun c1 => ?_) (fun c1 => ?_)
    · have ht4 : t = 4 := by rcases Nat.lt_or_ge t 4 with h9 | h9; exact absurd c1 (by rw [ex]; exact nI_ge (b := 4) h9 (by decide)); omega
      exact lpE_Qy_parsePhrase hC hS hd hi hn40 hn (by rw [hr, ht4]; rfl) (by omega) hPS
    · have ht4 : t < 4 := by rcases Nat.lt_or_ge t 4 with h9 | h9; exact h9; exact absurd (by rw [ex]; exact nI_le (a := 4) h9 (by omega)) c1
      refine v_aload_n 1 d_Qy_parsePhrase_11 rfl rfl rfl ?_
      refine v_cVp (as := []) d_Qy_parsePhrase_12 cs_Qy_41 (c_Qy_isFaulty hC hS (d := d - 1) (by omega)) (hS.o (by decide) rfl) (by decide) rfl rfl rfl (by decide) (by omega) rfl ?_
      refine v_if_ne (tgt := 43) d_Qy_parsePhrase_15 (by decide) rfl (fun c2 => ?_) (fun c2 => ?_)
      · exact absurd (by rw [hPS.2.1]; simp [bI]) c2
      · refine v_aload_n 1 d_Qy_parsePhrase_18 rfl rfl rfl ?_
        refine v_cVp (as := []) d_Qy_parsePhrase_19 cs_Qy_45 (c_Qy_next hC hS (d := d - 1) (n := n) (a := b) hn40 hPS.2.2.2.1 hn1 hPS.2.2.1 (by omega)) (hS.o (by decide) rfl) (by decide) rfl rfl rfl (by decide) (by omega) rfl ?_
        refine v_cNp (as := [.int (nx (I 77) n b)]) d_Qy_parsePhrase_22 cs_Qy_102 (c_Fi_isLetter hC (d := d - 1) (nx (I 77) n b) (by omega)) rfl rfl (by decide) (by omega) rfl ?_
        refine v_if_eq (tgt := 43) d_Qy_parsePhrase_25 (by decide) rfl (fun c3 => ?_) (fun c3 => ?_)
        · have hL : isLt (nx (I0 77) n b) = false := by have h9 := c3; rw [hc] at h9; cases h8 : isLt (nx (I0 77) n b); rfl; rw [h8] at h9; exact absurd h9 (by decide)
          exact lpE_Qy_parsePhrase hC hS hd hi hn40 hn (by rw [hr, show 4 - t = (4 - (t + 1)) + 1 by omega, phF_s, hL]; rfl) (by omega) hPS
        · have hL : isLt (nx (I0 77) n b) = true := by have h9 := c3; rw [hc] at h9; cases h8 : isLt (nx (I0 77) n b); rw [h8] at h9; exact absurd rfl h9; rfl
          have hln : b + lcn (I0 77) n b 8 ≤ n := lcn_n 8 b hPS.2.2.2.1
          refine v_aload_n 1 d_Qy_parsePhrase_28 rfl rfl rfl ?_
          refine v_aload_n 2 d_Qy_parsePhrase_29 rfl rfl rfl ?_
          refine v_cVw (as := [.ref (79 + 2 * i)]) d_Qy_parsePhrase_30 cs_Qy_96 (c_Qy_parseWord hC hS (d := d - 1) (n := n) (a := b) (s := t) hi hn40 hPS.2.2.2.1 (by omega) hn1 hPS.2.2.1 (by rw [htw]; exact hPS.2.2.2.2.1) (by omega)) (hS.o (by decide) rfl) (by decide) rfl rfl rfl (by decide) (by omega) rfl (fun I1 J1 hw => ?_)
          have hfr := PwQ.fr hi hw
          rcases id hw with ⟨q1, q2, q3⟩ | ⟨q1, q2, q3⟩
          · rw [hc] at q1 q2
            have h62 : I1 76 6 = nI (b + lcn (I0 77) n b 8) := by rw [q2, u2_s]
            have h52 : I1 76 5 = nI (b + lcn (I0 77) n b 8) := by rw [q2, u2_n (by decide), u2_s]
            have hn2 : I1 76 1 = nI n := by rw [hfr.n]; exact hn1
            refine v_aload_n 1 d_Qy_parsePhrase_33 rfl rfl rfl ?_
            refine v_cVu (as := []) d_Qy_parsePhrase_34 cs_Qy_70 (c_Qy_skipBlanks hC hS (d := d - 1) (n := n) (a := b + lcn (I0 77) n b 8) hn40 hln hn2 h52) (hS.o (by decide) rfl) (by decide) rfl rfl rfl (by decide) (by omega) rfl (fun I2 hk => ?_)
            obtain ⟨x4, ex4⟩ : ∃ y : Int32, y = x + 1 := ⟨_, rfl⟩
            have nx4 : x4 = nI (t + 1) := by rw [ex4, show x = nI t from ex]; exact nI_1 _
            refine v_iinc (n := 0) (v := x4) (L' := [(2, .int x4), (0, .ref 76), (1, .ref (79 + 2 * i))]) d_Qy_parsePhrase_37 rfl (by rw [ex4]; rfl) (by decide) rfl rfl ?_
            refine v_goto (tgt := 6) d_Qy_parsePhrase_40 (by decide) ?_
            have hphr : phr (I0 77) n a = .inl (b + lcn (I0 77) n b 8) := by unfold phr; rw [hr, show 4 - t = (4 - (t + 1)) + 1 by omega, phF_s, if_pos hL, if_pos q1]
            exact lpF_Qy_parsePhrase hC hS hd hi hn40 hn hphr (by rw [hk]; exact (hPS.1.trans hfr).at5 hi _) (by rw [hk, u2_n (by decide)]; exact h62) hln (b := skb (I1 77) n (b + lcn (I0 77) n b 8)) (skb_le hln).2 (by rw [hk, u2_s])
          · rw [hc] at q1 q2 q3
            have h52 : I1 76 5 = nI (b + lcn (I0 77) n b 8) := by rw [q2, u2_o (by omega), u2_s]
            have hn2 : I1 76 1 = nI n := by rw [hfr.n]; exact hn1
            refine v_aload_n 1 d_Qy_parsePhrase_33 rfl rfl rfl ?_
            refine v_cVu (as := []) d_Qy_parsePhrase_34 cs_Qy_70 (c_Qy_skipBlanks hC hS (d := d - 1) (n := n) (a := b + lcn (I0 77) n b 8) hn40 hln hn2 h52) (hS.o (by decide) rfl) (by decide) rfl rfl rfl (by decide) (by omega) rfl (fun I2 hk => ?_)
            obtain ⟨x5, ex5⟩ : ∃ y : Int32, y = x + 1 := ⟨_, rfl⟩
            have nx5 : x5 = nI (t + 1) := by rw [ex5, show x = nI t from ex]; exact nI_1 _
            refine v_iinc (n := 0) (v := x5) (L' := [(2, .int x5), (0, .ref 76), (1, .ref (79 + 2 * i))]) d_Qy_parsePhrase_37 rfl (by rw [ex5]; rfl) (by decide) rfl rfl ?_
            refine v_goto (tgt := 6) d_Qy_parsePhrase_40 (by decide) ?_
            have hc1 : I1 77 = I0 77 := (hfr.c hi).trans hc
            rw [hc1] at hk
            rw [htw] at q2 q3
            subst hk
            exact ih (t + 1) _ _ _ _ _ nx5 (by rw [htw]; simp) (by omega) (by omega) (by rw [hr, show 4 - t = (4 - (t + 1)) + 1 by omega, phF_s, if_pos hL, if_neg (by rw [q1]; decide)]) (hPS.add hi q1 q2 q3)
set_option maxHeartbeats 4000000 in
set_option maxRecDepth 100000 in
theorem c_Qy_parsePhrase {C : CT} {l : Launch} {S : ShT} {I : DI} {J : DJ} {d : Nat} (hC : OKC C l) (hS : SHP S) {i n a : Nat} (hi : i < 21) (hn40 : n ≤ 40) (han : a ≤ n) (hn : I 76 1 = nI n) (ha : I 76 5 = nI a) (hs : I (79 + 2 * i) 1 = nI 0) (hf : I 76 6 = -1) (hd : 2 ≤ d) : Sp C l k_Qy_parsePhrase y_Qy_parsePhrase (d, 0, 0) [.ref 76, .ref (79 + 2 * i)] S I J (PW S (PhQ I J i n a)) := by
  refine Sp.of hC cd_Qy_parsePhrase (Nat.le_of_ble_eq_true rfl) ?_
  show V C l k_Qy_parsePhrase (d, 0, 0) _ 0 [(0, .ref 76), (1, .ref (79 + 2 * i))] [] S I J (0, 0)
  refine v_aload_n 0 d_Qy_parsePhrase_0 rfl rfl rfl ?_
  refine v_cVu (as := []) d_Qy_parsePhrase_1 cs_Qy_70 (c_Qy_skipBlanks hC hS (d := d - 1) (n := n) (a := a) hn40 han hn ha) (hS.o (by decide) rfl) (by decide) rfl rfl rfl (by decide) (by omega) rfl (fun I2 hk => ?_)
  refine v_iconst (v := 0) d_Qy_parsePhrase_4 (by decide) rfl ?_
  refine v_istore_n (L' := [(2, .int 0), (0, .ref 76), (1, .ref (79 + 2 * i))]) d_Qy_parsePhrase_5 rfl (by decide) rfl rfl ?_
  subst hk
  exact lp_Qy_parsePhrase hC hS hd hi hn40 hn 5 0 (skb (I 77) n a) [] _ _ _ rfl rfl (by omega) (by omega) rfl ⟨FrT.rf.at5 hi _, by rw [u2_n (by decide)]; exact hf, u2_s, (skb_le han).2, by rw [u2_o (by omega)]; exact hs, fun j s l hj => by simp at hj, rfl⟩
