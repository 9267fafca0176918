theorem SHP.ad {S : ShT} (h : SHP S) (k : Nat × Nat) : SHP (ad1 S k) := by
  refine ⟨Nat.le_succ_of_le h.1, fun a ha => ⟨?_, fun j => ?_⟩⟩
  · show (if a = S.1 then k else S.2.1 a) = kd0 a
    rw [if_neg (by have := h.1; omega)]; exact (h.2 a ha).1
  · show zf S.2.2 S.1 none a j = rf0 a j
    rw [zf_lt (by have := h.1; omega)]; exact (h.2 a ha).2 j
/-- how a helper of the law ends: the number of the exception's class, or 0 and the answer in out[0] -/
def HP (T : Nat → Int32) (Q : Int32 ⊕ Nat → DI → DJ → Prop) : PoT := PR (fun v S' I' J' => SHP S' ∧ ∃ (k : Int32) (r : Int32 ⊕ Nat), v = some (.int k) ∧ ∃ I1 J1, Q r I1 J1 ∧ (∀ b, b < 148 → I' b = I1 b) ∧ (∀ b, b < 148 → J' b = J1 b) ∧ HK T r k (J' 148 0))
set_option maxHeartbeats 4000000 in
set_option maxRecDepth 100000 in
theorem c_Lw_make {C : CT} {l : Launch} {S : ShT} {I : DI} {J : DJ} {d : Nat} (hC : OKC C l) (hS : SHP S) {m : Nat} {a b : Int32} {p : Bool} (hm : m ≤ 8) (h2 : I 22 2 = nI m) (hd : 7 ≤ d) : Sp C l k_Lw_make y_Lw_make (d, 1, 6) [.ref 0, .int a, .int b, .int (bI p), .ref 148] S I J (HP (cdT 1 2 0) (MkQ I J a b p)) := by
  refine Sp.of hC cd_Lw_make (Nat.le_of_ble_eq_true rfl) ?_
  show V C l k_Lw_make (d, 1, 6) _ 0 [(0, .ref 0), (1, .int a), (2, .int b), (3, .int (bI p)), (4, .ref 148)] [] S I J (0, 0)
  refine v_aload 4 d_Lw_make_0 rfl rfl ?_
  refine v_iconst (v := 0) d_Lw_make_2 (by decide) rfl ?_
  refine v_aload_n 0 d_Lw_make_3 rfl rfl rfl ?_
  refine v_iload_n 1 d_Lw_make_4 rfl rfl rfl ?_
  refine v_iload_n 2 d_Lw_make_5 rfl rfl rfl ?_
  refine v_iload_n 3 d_Lw_make_6 rfl rfl rfl ?_
  refine v_callV (as := [.int a, .int b, .int (bI p)]) d_Lw_make_7 cs_Lw_7 (c_Fi_make hC hS (d := d - 1) hm h2 (by omega)) (hS.o (by decide) rfl) (by decide) rfl rfl rfl (by simp [Value.category]) (by show (d - 1) + 1 ≤ d; omega) ⟨Nat.le_of_ble_eq_true rfl, Nat.le_of_ble_eq_true rfl⟩ rfl (fun v9 S9 I9 J9 hP9 => ?_) (fun c9 k9 S9 I9 J9 hP9 hs9 hk9 => ?_)
  · obtain ⟨rfl, x9, rfl, hQ⟩ := hP9
    refine v_i2l d_Lw_make_10 rfl rfl ?_
    refine v_nml (fun z1 ez1 => ?_)
    refine v_last (j := 0) d_Lw_make_11 (hS.a (t := 34) (n := 1) (by decide) rfl) rfl (by decide) (by decide) rfl ?_
    refine v_goto (tgt := 23) d_Lw_make_12 (by decide) ?_
    refine v_iconst (v := 0) d_Lw_make_23 (by decide) rfl ?_
    refine v_iret d_Lw_make_24 rfl ?_
    exact ⟨hS, 0, .inl x9, rfl, I9, J9, hQ, fun _ _ => rfl, fun b hb => u2_o (by omega), rfl, by rw [u2_s]; exact ez1⟩
  · obtain ⟨rfl, I1, J1, rfl, rfl, hQ⟩ := hP9
    have hN : 149 ≤ S.1 := hS.1
    have hc := hQ.ex
    rcases hc with rfl | rfl
    · refine v_catch (ci := 9) (pre := []) (post := [(0, 12, 19, 15)]) (x := (0, 12, 15, 13)) rfl (by decide) ⟨by rw [hs9]; exact Nat.lt_succ_self _, hk9⟩ ⟨by decide, by decide, wl_Lw_13⟩ (fun y hy => by cases hy) rfl ?_
      refine v_astore (L' := [(5, .ref k9), (0, .ref 0), (1, .int a), (2, .int b), (3, .int (bI p)), (4, .ref 148)]) d_Lw_make_15 (by decide) rfl rfl ?_
      refine v_iconst (v := 1) d_Lw_make_17 (by decide) rfl ?_
      refine v_iret d_Lw_make_18 rfl ?_
      exact ⟨hS.ad _, 1, .inr 9, rfl, I1, J1, hQ, fun b hb => zf_lt (by omega), fun b hb => zf_lt (by omega), by decide, by decide⟩
    · refine v_catch (ci := 10) (pre := [(0, 12, 15, 13)]) (post := []) (x := (0, 12, 19, 15)) rfl (by decide) ⟨by rw [hs9]; exact Nat.lt_succ_self _, hk9⟩ ⟨by decide, by decide, wl_Lw_15⟩ (List.forall_mem_cons.mpr ⟨⟨by decide, by decide, 9, by decide, by decide, wl_Lw_13⟩, fun _ h => absurd h List.not_mem_nil⟩) rfl ?_
      refine v_astore (L' := [(5, .ref k9), (0, .ref 0), (1, .int a), (2, .int b), (3, .int (bI p)), (4, .ref 148)]) d_Lw_make_19 (by decide) rfl rfl ?_
      refine v_iconst (v := 2) d_Lw_make_21 (by decide) rfl ?_
      refine v_iret d_Lw_make_22 rfl ?_
      exact ⟨hS.ad _, 2, .inr 10, rfl, I1, J1, hQ, fun b hb => zf_lt (by omega), fun b hb => zf_lt (by omega), by decide, by decide⟩
set_option maxHeartbeats 4000000 in
set_option maxRecDepth 100000 in
theorem c_Lw_write {C : CT} {l : Launch} {S : ShT} {I : DI} {J : DJ} {d : Nat} (hC : OKC C l) (hS : SHP S) {m : Nat} {a n : Int32} {v : Int64} (hm : m ≤ 8) (h2 : I 22 2 = nI m) (hL : ∀ i, i < 16 → ∃ q, q ≤ 60 ∧ I 21 i = nI q) (hd : 7 ≤ d) : Sp C l k_Lw_write y_Lw_write (d, 1, 6) [.ref 0, .int a, .long v, .int n, .ref 148] S I J (HP (cdT 2 3 1) (WrQ I J a v n)) := by
  refine Sp.of hC cd_Lw_write (Nat.le_of_ble_eq_true rfl) ?_
  show V C l k_Lw_write (d, 1, 6) _ 0 [(0, .ref 0), (1, .int a), (2, .long v), (4, .int n), (5, .ref 148)] [] S I J (0, 0)
  refine v_aload 4 d_Lw_write_0 rfl rfl ?_
  refine v_iconst (v := 0) d_Lw_write_2 (by decide) rfl ?_
  refine v_aload_n 0 d_Lw_write_3 rfl rfl rfl ?_
  refine v_iload_n 1 d_Lw_write_4 rfl rfl rfl ?_
  refine v_lload_n 2 d_Lw_write_5 rfl rfl rfl ?_
  refine v_iload 3 d_Lw_write_6 rfl rfl ?_
  refine v_callV (as := [.int a, .long v, .int n]) d_Lw_write_8 cs_Lw_17 (c_Fi_write hC hS (d := d - 1) hm h2 hL (by omega)) (hS.o (by decide) rfl) (by decide) rfl rfl rfl (by simp [Value.category]) (by show (d - 1) + 1 ≤ d; omega) ⟨Nat.le_of_ble_eq_true rfl, Nat.le_of_ble_eq_true rfl⟩ rfl (fun v9 S9 I9 J9 hP9 => ?_) (fun c9 k9 S9 I9 J9 hP9 hs9 hk9 => ?_)
  · obtain ⟨rfl, x9, rfl, hQ⟩ := hP9
    refine v_i2l d_Lw_write_11 rfl rfl ?_
    refine v_nml (fun z1 ez1 => ?_)
    refine v_last (j := 0) d_Lw_write_12 (hS.a (t := 34) (n := 1) (by decide) rfl) rfl (by decide) (by decide) rfl ?_
    refine v_goto (tgt := 28) d_Lw_write_13 (by decide) ?_
    refine v_iconst (v := 0) d_Lw_write_28 (by decide) rfl ?_
    refine v_iret d_Lw_write_29 rfl ?_
    exact ⟨hS, 0, .inl x9, rfl, I9, J9, hQ, fun _ _ => rfl, fun b hb => u2_o (by omega), rfl, by rw [u2_s]; exact ez1⟩
  · obtain ⟨rfl, I1, J1, rfl, rfl, hQ⟩ := hP9
    have hN : 149 ≤ S.1 := hS.1
    have hc := hQ.ex
    rcases hc with rfl | rfl | rfl
    · refine v_catch (ci := 9) (pre := [(0, 13, 16, 21)]) (post := [(0, 13, 24, 15)]) (x := (0, 13, 20, 13)) rfl (by decide) ⟨by rw [hs9]; exact Nat.lt_succ_self _, hk9⟩ ⟨by decide, by decide, wl_Lw_13⟩ (List.forall_mem_cons.mpr ⟨⟨by decide, by decide, 11, by decide, by decide, wl_Lw_21⟩, fun _ h => absurd h List.not_mem_nil⟩) rfl ?_
      refine v_astore (L' := [(6, .ref k9), (0, .ref 0), (1, .int a), (2, .long v), (4, .int n), (5, .ref 148)]) d_Lw_write_20 (by decide) rfl rfl ?_
      refine v_iconst (v := 2) d_Lw_write_22 (by decide) rfl ?_
      refine v_iret d_Lw_write_23 rfl ?_
      exact ⟨hS.ad _, 2, .inr 9, rfl, I1, J1, hQ, fun b hb => zf_lt (by omega), fun b hb => zf_lt (by omega), by decide, by decide⟩
    · refine v_catch (ci := 10) (pre := [(0, 13, 16, 21), (0, 13, 20, 13)]) (post := []) (x := (0, 13, 24, 15)) rfl (by decide) ⟨by rw [hs9]; exact Nat.lt_succ_self _, hk9⟩ ⟨by decide, by decide, wl_Lw_15⟩ (List.forall_mem_cons.mpr ⟨⟨by decide, by decide, 11, by decide, by decide, wl_Lw_21⟩, List.forall_mem_cons.mpr ⟨⟨by decide, by decide, 9, by decide, by decide, wl_Lw_13⟩, fun _ h => absurd h List.not_mem_nil⟩⟩) rfl ?_
      refine v_astore (L' := [(6, .ref k9), (0, .ref 0), (1, .int a), (2, .long v), (4, .int n), (5, .ref 148)]) d_Lw_write_24 (by decide) rfl rfl ?_
      refine v_iconst (v := 3) d_Lw_write_26 (by decide) rfl ?_
      refine v_iret d_Lw_write_27 rfl ?_
      exact ⟨hS.ad _, 3, .inr 10, rfl, I1, J1, hQ, fun b hb => zf_lt (by omega), fun b hb => zf_lt (by omega), by decide, by decide⟩
    · refine v_catch (ci := 11) (pre := []) (post := [(0, 13, 20, 13), (0, 13, 24, 15)]) (x := (0, 13, 16, 21)) rfl (by decide) ⟨by rw [hs9]; exact Nat.lt_succ_self _, hk9⟩ ⟨by decide, by decide, wl_Lw_21⟩ (fun y hy => by cases hy) rfl ?_
      refine v_astore (L' := [(6, .ref k9), (0, .ref 0), (1, .int a), (2, .long v), (4, .int n), (5, .ref 148)]) d_Lw_write_16 (by decide) rfl rfl ?_
      refine v_iconst (v := 1) d_Lw_write_18 (by decide) rfl ?_
      refine v_iret d_Lw_write_19 rfl ?_
      exact ⟨hS.ad _, 1, .inr 11, rfl, I1, J1, hQ, fun b hb => zf_lt (by omega), fun b hb => zf_lt (by omega), by decide, by decide⟩
set_option maxHeartbeats 4000000 in
set_option maxRecDepth 100000 in
theorem c_Lw_cut {C : CT} {l : Launch} {S : ShT} {I : DI} {J : DJ} {d : Nat} (hC : OKC C l) (hS : SHP S) {m : Nat} {a n : Int32} (hm : m ≤ 8) (h2 : I 22 2 = nI m) (hL : ∀ i, i < 16 → ∃ q, q ≤ 60 ∧ I 21 i = nI q) (hd : 7 ≤ d) : Sp C l k_Lw_cut y_Lw_cut (d, 1, 6) [.ref 0, .int a, .int n, .ref 148] S I J (HP (cdT 2 0 1) (CtQ I J a n)) := by
  refine Sp.of hC cd_Lw_cut (Nat.le_of_ble_eq_true rfl) ?_
  show V C l k_Lw_cut (d, 1, 6) _ 0 [(0, .ref 0), (1, .int a), (2, .int n), (3, .ref 148)] [] S I J (0, 0)
  refine v_aload_n 3 d_Lw_cut_0 rfl rfl rfl ?_
  refine v_iconst (v := 0) d_Lw_cut_1 (by decide) rfl ?_
  refine v_aload_n 0 d_Lw_cut_2 rfl rfl rfl ?_
  refine v_iload_n 1 d_Lw_cut_3 rfl rfl rfl ?_
  refine v_iload_n 2 d_Lw_cut_4 rfl rfl rfl ?_
  refine v_callV (as := [.int a, .int n]) d_Lw_cut_5 cs_Lw_23 (c_Fi_cut hC hS (d := d - 1) hm h2 hL (by omega)) (hS.o (by decide) rfl) (by decide) rfl rfl rfl (by simp [Value.category]) (by show (d - 1) + 1 ≤ d; omega) ⟨Nat.le_of_ble_eq_true rfl, Nat.le_of_ble_eq_true rfl⟩ rfl (fun v9 S9 I9 J9 hP9 => ?_) (fun c9 k9 S9 I9 J9 hP9 hs9 hk9 => ?_)
  · obtain ⟨rfl, x9, rfl, hQ⟩ := hP9
    refine v_i2l d_Lw_cut_8 rfl rfl ?_
    refine v_nml (fun z1 ez1 => ?_)
    refine v_last (j := 0) d_Lw_cut_9 (hS.a (t := 34) (n := 1) (by decide) rfl) rfl (by decide) (by decide) rfl ?_
    refine v_goto (tgt := 21) d_Lw_cut_10 (by decide) ?_
    refine v_iconst (v := 0) d_Lw_cut_21 (by decide) rfl ?_
    refine v_iret d_Lw_cut_22 rfl ?_
    exact ⟨hS, 0, .inl x9, rfl, I9, J9, hQ, fun _ _ => rfl, fun b hb => u2_o (by omega), rfl, by rw [u2_s]; exact ez1⟩
  · obtain ⟨rfl, I1, J1, rfl, rfl, hQ⟩ := hP9
    have hN : 149 ≤ S.1 := hS.1
    have hc := hQ.ex
    rcases hc with rfl | rfl
    · refine v_catch (ci := 9) (pre := [(0, 10, 13, 21)]) (post := []) (x := (0, 10, 17, 13)) rfl (by decide) ⟨by rw [hs9]; exact Nat.lt_succ_self _, hk9⟩ ⟨by decide, by decide, wl_Lw_13⟩ (List.forall_mem_cons.mpr ⟨⟨by decide, by decide, 11, by decide, by decide, wl_Lw_21⟩, fun _ h => absurd h List.not_mem_nil⟩) rfl ?_
      refine v_astore (L' := [(4, .ref k9), (0, .ref 0), (1, .int a), (2, .int n), (3, .ref 148)]) d_Lw_cut_17 (by decide) rfl rfl ?_
      refine v_iconst (v := 2) d_Lw_cut_19 (by decide) rfl ?_
      refine v_iret d_Lw_cut_20 rfl ?_
      exact ⟨hS.ad _, 2, .inr 9, rfl, I1, J1, hQ, fun b hb => zf_lt (by omega), fun b hb => zf_lt (by omega), by decide, by decide⟩
    · refine v_catch (ci := 11) (pre := []) (post := [(0, 10, 17, 13)]) (x := (0, 10, 13, 21)) rfl (by decide) ⟨by rw [hs9]; exact Nat.lt_succ_self _, hk9⟩ ⟨by decide, by decide, wl_Lw_21⟩ (fun y hy => by cases hy) rfl ?_
      refine v_astore (L' := [(4, .ref k9), (0, .ref 0), (1, .int a), (2, .int n), (3, .ref 148)]) d_Lw_cut_13 (by decide) rfl rfl ?_
      refine v_iconst (v := 1) d_Lw_cut_15 (by decide) rfl ?_
      refine v_iret d_Lw_cut_16 rfl ?_
      exact ⟨hS.ad _, 1, .inr 11, rfl, I1, J1, hQ, fun b hb => zf_lt (by omega), fun b hb => zf_lt (by omega), by decide, by decide⟩
set_option maxHeartbeats 4000000 in
set_option maxRecDepth 100000 in
theorem c_Lw_remove {C : CT} {l : Launch} {S : ShT} {I : DI} {J : DJ} {d : Nat} (hC : OKC C l) (hS : SHP S) {m : Nat} {a : Int32} (hm : m ≤ 8) (h2 : I 22 2 = nI m) (hP : ∀ i, i < 16 → ∃ j, j < 16 ∧ I 3 i = nI j) (hd : 7 ≤ d) : Sp C l k_Lw_remove y_Lw_remove (d, 1, 6) [.ref 0, .int a, .ref 148] S I J (HP (cdT 1 0 2) (RvQ I J a)) := by
  refine Sp.of hC cd_Lw_remove (Nat.le_of_ble_eq_true rfl) ?_
  show V C l k_Lw_remove (d, 1, 6) _ 0 [(0, .ref 0), (1, .int a), (2, .ref 148)] [] S I J (0, 0)
  refine v_aload_n 2 d_Lw_remove_0 rfl rfl rfl ?_
  refine v_iconst (v := 0) d_Lw_remove_1 (by decide) rfl ?_
  refine v_aload_n 0 d_Lw_remove_2 rfl rfl rfl ?_
  refine v_iload_n 1 d_Lw_remove_3 rfl rfl rfl ?_
  refine v_callV (as := [.int a]) d_Lw_remove_4 cs_Lw_27 (c_Fi_remove hC hS (d := d - 1) hm h2 hP (by omega)) (hS.o (by decide) rfl) (by decide) rfl rfl rfl (by simp [Value.category]) (by show (d - 1) + 1 ≤ d; omega) ⟨Nat.le_of_ble_eq_true rfl, Nat.le_of_ble_eq_true rfl⟩ rfl (fun v9 S9 I9 J9 hP9 => ?_) (fun c9 k9 S9 I9 J9 hP9 hs9 hk9 => ?_)
  · obtain ⟨rfl, x9, rfl, hQ⟩ := hP9
    refine v_i2l d_Lw_remove_7 rfl rfl ?_
    refine v_nml (fun z1 ez1 => ?_)
    refine v_last (j := 0) d_Lw_remove_8 (hS.a (t := 34) (n := 1) (by decide) rfl) rfl (by decide) (by decide) rfl ?_
    refine v_goto (tgt := 18) d_Lw_remove_9 (by decide) ?_
    refine v_iconst (v := 0) d_Lw_remove_18 (by decide) rfl ?_
    refine v_iret d_Lw_remove_19 rfl ?_
    exact ⟨hS, 0, .inl x9, rfl, I9, J9, hQ, fun _ _ => rfl, fun b hb => u2_o (by omega), rfl, by rw [u2_s]; exact ez1⟩
  · obtain ⟨rfl, I1, J1, rfl, rfl, hQ⟩ := hP9
    have hN : 149 ≤ S.1 := hS.1
    have hc := hQ.ex
    rcases hc with rfl | rfl
    · refine v_catch (ci := 9) (pre := []) (post := [(0, 9, 15, 21)]) (x := (0, 9, 12, 13)) rfl (by decide) ⟨by rw [hs9]; exact Nat.lt_succ_self _, hk9⟩ ⟨by decide, by decide, wl_Lw_13⟩ (fun y hy => by cases hy) rfl ?_
      refine v_astore_n (L' := [(3, .ref k9), (0, .ref 0), (1, .int a), (2, .ref 148)]) d_Lw_remove_12 rfl (by decide) rfl rfl ?_
      refine v_iconst (v := 1) d_Lw_remove_13 (by decide) rfl ?_
      refine v_iret d_Lw_remove_14 rfl ?_
      exact ⟨hS.ad _, 1, .inr 9, rfl, I1, J1, hQ, fun b hb => zf_lt (by omega), fun b hb => zf_lt (by omega), by decide, by decide⟩
    · refine v_catch (ci := 11) (pre := [(0, 9, 12, 13)]) (post := []) (x := (0, 9, 15, 21)) rfl (by decide) ⟨by rw [hs9]; exact Nat.lt_succ_self _, hk9⟩ ⟨by decide, by decide, wl_Lw_21⟩ (List.forall_mem_cons.mpr ⟨⟨by decide, by decide, 9, by decide, by decide, wl_Lw_13⟩, fun _ h => absurd h List.not_mem_nil⟩) rfl ?_
      refine v_astore_n (L' := [(3, .ref k9), (0, .ref 0), (1, .int a), (2, .ref 148)]) d_Lw_remove_15 rfl (by decide) rfl rfl ?_
      refine v_iconst (v := 2) d_Lw_remove_16 (by decide) rfl ?_
      refine v_iret d_Lw_remove_17 rfl ?_
      exact ⟨hS.ad _, 2, .inr 11, rfl, I1, J1, hQ, fun b hb => zf_lt (by omega), fun b hb => zf_lt (by omega), by decide, by decide⟩
set_option maxHeartbeats 4000000 in
set_option maxRecDepth 100000 in
theorem c_Lw_move {C : CT} {l : Launch} {S : ShT} {I : DI} {J : DJ} {d : Nat} (hC : OKC C l) (hS : SHP S) {a b : Int32} (hP : ∀ i, i < 16 → ∃ j, j < 16 ∧ I 3 i = nI j) (hd : 7 ≤ d) : Sp C l k_Lw_move y_Lw_move (d, 1, 6) [.ref 0, .int a, .int b, .ref 148] S I J (HP (cdT 1 3 2) (MvQ I J a b)) := by
  refine Sp.of hC cd_Lw_move (Nat.le_of_ble_eq_true rfl) ?_
  show V C l k_Lw_move (d, 1, 6) _ 0 [(0, .ref 0), (1, .int a), (2, .int b), (3, .ref 148)] [] S I J (0, 0)
  refine v_aload_n 3 d_Lw_move_0 rfl rfl rfl ?_
  refine v_iconst (v := 0) d_Lw_move_1 (by decide) rfl ?_
  refine v_aload_n 0 d_Lw_move_2 rfl rfl rfl ?_
  refine v_iload_n 1 d_Lw_move_3 rfl rfl rfl ?_
  refine v_iload_n 2 d_Lw_move_4 rfl rfl rfl ?_
  refine v_callV (as := [.int a, .int b]) d_Lw_move_5 cs_Lw_31 (c_Fi_move hC hS (d := d - 1) hP (by omega)) (hS.o (by decide) rfl) (by decide) rfl rfl rfl (by simp [Value.category]) (by show (d - 1) + 1 ≤ d; omega) ⟨Nat.le_of_ble_eq_true rfl, Nat.le_of_ble_eq_true rfl⟩ rfl (fun v9 S9 I9 J9 hP9 => ?_) (fun c9 k9 S9 I9 J9 hP9 hs9 hk9 => ?_)
  · obtain ⟨rfl, x9, rfl, hQ⟩ := hP9
    refine v_i2l d_Lw_move_8 rfl rfl ?_
    refine v_nml (fun z1 ez1 => ?_)
    refine v_last (j := 0) d_Lw_move_9 (hS.a (t := 34) (n := 1) (by decide) rfl) rfl (by decide) (by decide) rfl ?_
    refine v_goto (tgt := 25) d_Lw_move_10 (by decide) ?_
    refine v_iconst (v := 0) d_Lw_move_25 (by decide) rfl ?_
    refine v_iret d_Lw_move_26 rfl ?_
    exact ⟨hS, 0, .inl x9, rfl, I9, J9, hQ, fun _ _ => rfl, fun b hb => u2_o (by omega), rfl, by rw [u2_s]; exact ez1⟩
  · obtain ⟨rfl, I1, J1, rfl, rfl, hQ⟩ := hP9
    have hN : 149 ≤ S.1 := hS.1
    have hc := hQ.ex
    rcases hc with rfl | rfl | rfl
    · refine v_catch (ci := 9) (pre := []) (post := [(0, 10, 17, 21), (0, 10, 21, 15)]) (x := (0, 10, 13, 13)) rfl (by decide) ⟨by rw [hs9]; exact Nat.lt_succ_self _, hk9⟩ ⟨by decide, by decide, wl_Lw_13⟩ (fun y hy => by cases hy) rfl ?_
      refine v_astore (L' := [(4, .ref k9), (0, .ref 0), (1, .int a), (2, .int b), (3, .ref 148)]) d_Lw_move_13 (by decide) rfl rfl ?_
      refine v_iconst (v := 1) d_Lw_move_15 (by decide) rfl ?_
      refine v_iret d_Lw_move_16 rfl ?_
      exact ⟨hS.ad _, 1, .inr 9, rfl, I1, J1, hQ, fun b hb => zf_lt (by omega), fun b hb => zf_lt (by omega), by decide, by decide⟩
    · refine v_catch (ci := 10) (pre := [(0, 10, 13, 13), (0, 10, 17, 21)]) (post := []) (x := (0, 10, 21, 15)) rfl (by decide) ⟨by rw [hs9]; exact Nat.lt_succ_self _, hk9⟩ ⟨by decide, by decide, wl_Lw_15⟩ (List.forall_mem_cons.mpr ⟨⟨by decide, by decide, 9, by decide, by decide, wl_Lw_13⟩, List.forall_mem_cons.mpr ⟨⟨by decide, by decide, 11, by decide, by decide, wl_Lw_21⟩, fun _ h => absurd h List.not_mem_nil⟩⟩) rfl ?_
      refine v_astore (L' := [(4, .ref k9), (0, .ref 0), (1, .int a), (2, .int b), (3, .ref 148)]) d_Lw_move_21 (by decide) rfl rfl ?_
      refine v_iconst (v := 3) d_Lw_move_23 (by decide) rfl ?_
      refine v_iret d_Lw_move_24 rfl ?_
      exact ⟨hS.ad _, 3, .inr 10, rfl, I1, J1, hQ, fun b hb => zf_lt (by omega), fun b hb => zf_lt (by omega), by decide, by decide⟩
    · refine v_catch (ci := 11) (pre := [(0, 10, 13, 13)]) (post := [(0, 10, 21, 15)]) (x := (0, 10, 17, 21)) rfl (by decide) ⟨by rw [hs9]; exact Nat.lt_succ_self _, hk9⟩ ⟨by decide, by decide, wl_Lw_21⟩ (List.forall_mem_cons.mpr ⟨⟨by decide, by decide, 9, by decide, by decide, wl_Lw_13⟩, fun _ h => absurd h List.not_mem_nil⟩) rfl ?_
      refine v_astore (L' := [(4, .ref k9), (0, .ref 0), (1, .int a), (2, .int b), (3, .ref 148)]) d_Lw_move_17 (by decide) rfl rfl ?_
      refine v_iconst (v := 2) d_Lw_move_19 (by decide) rfl ?_
      refine v_iret d_Lw_move_20 rfl ?_
      exact ⟨hS.ad _, 2, .inr 11, rfl, I1, J1, hQ, fun b hb => zf_lt (by omega), fun b hb => zf_lt (by omega), by decide, by decide⟩
set_option maxHeartbeats 4000000 in
set_option maxRecDepth 100000 in
theorem c_Lw_work {C : CT} {l : Launch} {S : ShT} {I : DI} {J : DJ} {d : Nat} (hC : OKC C l) (hS : SHP S) {m : Nat} {n : Int32} (hm : m ≤ 8) (h2 : I 22 2 = nI m) (hL : ∀ i, i < 16 → ∃ q, q ≤ 60 ∧ I 21 i = nI q) (hQ : ∀ i, i < m → ∃ j, j < 16 ∧ I 24 i = nI j) (hlo : I 22 3 = 0 ∨ I 22 3 = 1) (hd : 7 ≤ d) : Sp C l k_Lw_work y_Lw_work (d, 1, 6) [.ref 0, .int n, .ref 148] S I J (HP (cdT 1 2 0) (WkQ I J m n)) := by
  refine Sp.of hC cd_Lw_work (Nat.le_of_ble_eq_true rfl) ?_
  show V C l k_Lw_work (d, 1, 6) _ 0 [(0, .ref 0), (1, .int n), (2, .ref 148)] [] S I J (0, 0)
  refine v_aload_n 2 d_Lw_work_0 rfl rfl rfl ?_
  refine v_iconst (v := 0) d_Lw_work_1 (by decide) rfl ?_
  refine v_aload_n 0 d_Lw_work_2 rfl rfl rfl ?_
  refine v_iload_n 1 d_Lw_work_3 rfl rfl rfl ?_
  refine v_callV (as := [.int n]) d_Lw_work_4 cs_Lw_34 (c_Fi_work hC hS (d := d - 1) hm h2 hL hQ hlo (by omega)) (hS.o (by decide) rfl) (by decide) rfl rfl rfl (by simp [Value.category]) (by show (d - 1) + 1 ≤ d; omega) ⟨Nat.le_of_ble_eq_true rfl, Nat.le_of_ble_eq_true rfl⟩ rfl (fun v9 S9 I9 J9 hP9 => ?_) (fun c9 k9 S9 I9 J9 hP9 hs9 hk9 => ?_)
  · obtain ⟨rfl, x9, rfl, hQ⟩ := hP9
    refine v_i2l d_Lw_work_7 rfl rfl ?_
    refine v_nml (fun z1 ez1 => ?_)
    refine v_last (j := 0) d_Lw_work_8 (hS.a (t := 34) (n := 1) (by decide) rfl) rfl (by decide) (by decide) rfl ?_
    refine v_goto (tgt := 18) d_Lw_work_9 (by decide) ?_
    refine v_iconst (v := 0) d_Lw_work_18 (by decide) rfl ?_
    refine v_iret d_Lw_work_19 rfl ?_
    exact ⟨hS, 0, .inl x9, rfl, I9, J9, hQ, fun _ _ => rfl, fun b hb => u2_o (by omega), rfl, by rw [u2_s]; exact ez1⟩
  · obtain ⟨rfl, I1, J1, rfl, rfl, hQ⟩ := hP9
    have hN : 149 ≤ S.1 := hS.1
    have hc := hQ.ex
    rcases hc with rfl | rfl
    · refine v_catch (ci := 9) (pre := []) (post := [(0, 9, 15, 15)]) (x := (0, 9, 12, 13)) rfl (by decide) ⟨by rw [hs9]; exact Nat.lt_succ_self _, hk9⟩ ⟨by decide, by decide, wl_Lw_13⟩ (fun y hy => by cases hy) rfl ?_
      refine v_astore_n (L' := [(3, .ref k9), (0, .ref 0), (1, .int n), (2, .ref 148)]) d_Lw_work_12 rfl (by decide) rfl rfl ?_
      refine v_iconst (v := 1) d_Lw_work_13 (by decide) rfl ?_
      refine v_iret d_Lw_work_14 rfl ?_
      exact ⟨hS.ad _, 1, .inr 9, rfl, I1, J1, hQ, fun b hb => zf_lt (by omega), fun b hb => zf_lt (by omega), by decide, by decide⟩
    · refine v_catch (ci := 10) (pre := [(0, 9, 12, 13)]) (post := []) (x := (0, 9, 15, 15)) rfl (by decide) ⟨by rw [hs9]; exact Nat.lt_succ_self _, hk9⟩ ⟨by decide, by decide, wl_Lw_15⟩ (List.forall_mem_cons.mpr ⟨⟨by decide, by decide, 9, by decide, by decide, wl_Lw_13⟩, fun _ h => absurd h List.not_mem_nil⟩) rfl ?_
      refine v_astore_n (L' := [(3, .ref k9), (0, .ref 0), (1, .int n), (2, .ref 148)]) d_Lw_work_15 rfl (by decide) rfl rfl ?_
      refine v_iconst (v := 2) d_Lw_work_16 (by decide) rfl ?_
      refine v_iret d_Lw_work_17 rfl ?_
      exact ⟨hS.ad _, 2, .inr 10, rfl, I1, J1, hQ, fun b hb => zf_lt (by omega), fun b hb => zf_lt (by omega), by decide, by decide⟩
set_option maxHeartbeats 4000000 in
set_option maxRecDepth 100000 in
theorem c_Lw_type {C : CT} {l : Launch} {S : ShT} {I : DI} {J : DJ} {d : Nat} (hC : OKC C l) (hS : SHP S) {n : Nat} {x : Int32} (hn : I 76 1 = nI n) (hn40 : n ≤ 40) (hd : 7 ≤ d) : Sp C l k_Lw_type y_Lw_type (d, 1, 6) [.ref 0, .int x, .ref 148] S I J (HP (cdT 1 2 0) (TyQ I J n x)) := by
  refine Sp.of hC cd_Lw_type (Nat.le_of_ble_eq_true rfl) ?_
  show V C l k_Lw_type (d, 1, 6) _ 0 [(0, .ref 0), (1, .int x), (2, .ref 148)] [] S I J (0, 0)
  refine v_aload_n 2 d_Lw_type_0 rfl rfl rfl ?_
  refine v_iconst (v := 0) d_Lw_type_1 (by decide) rfl ?_
  refine v_aload_n 0 d_Lw_type_2 rfl rfl rfl ?_
  refine v_iload_n 1 d_Lw_type_3 rfl rfl rfl ?_
  refine v_callV (as := [.int x]) d_Lw_type_4 cs_Lw_37 (c_Fi_type hC hS (d := d - 1) hn hn40 (by omega)) (hS.o (by decide) rfl) (by decide) rfl rfl rfl (by simp [Value.category]) (by show (d - 1) + 1 ≤ d; omega) ⟨Nat.le_of_ble_eq_true rfl, Nat.le_of_ble_eq_true rfl⟩ rfl (fun v9 S9 I9 J9 hP9 => ?_) (fun c9 k9 S9 I9 J9 hP9 hs9 hk9 => ?_)
  · obtain ⟨rfl, x9, rfl, hQ⟩ := hP9
    refine v_i2l d_Lw_type_7 rfl rfl ?_
    refine v_nml (fun z1 ez1 => ?_)
    refine v_last (j := 0) d_Lw_type_8 (hS.a (t := 34) (n := 1) (by decide) rfl) rfl (by decide) (by decide) rfl ?_
    refine v_goto (tgt := 18) d_Lw_type_9 (by decide) ?_
    refine v_iconst (v := 0) d_Lw_type_18 (by decide) rfl ?_
    refine v_iret d_Lw_type_19 rfl ?_
    exact ⟨hS, 0, .inl x9, rfl, I9, J9, hQ, fun _ _ => rfl, fun b hb => u2_o (by omega), rfl, by rw [u2_s]; exact ez1⟩
  · obtain ⟨rfl, I1, J1, rfl, rfl, hQ⟩ := hP9
    have hN : 149 ≤ S.1 := hS.1
    have hc := hQ.ex
    rcases hc with rfl | rfl
    · refine v_catch (ci := 9) (pre := []) (post := [(0, 9, 15, 15)]) (x := (0, 9, 12, 13)) rfl (by decide) ⟨by rw [hs9]; exact Nat.lt_succ_self _, hk9⟩ ⟨by decide, by decide, wl_Lw_13⟩ (fun y hy => by cases hy) rfl ?_
      refine v_astore_n (L' := [(3, .ref k9), (0, .ref 0), (1, .int x), (2, .ref 148)]) d_Lw_type_12 rfl (by decide) rfl rfl ?_
      refine v_iconst (v := 1) d_Lw_type_13 (by decide) rfl ?_
      refine v_iret d_Lw_type_14 rfl ?_
      exact ⟨hS.ad _, 1, .inr 9, rfl, I1, J1, hQ, fun b hb => zf_lt (by omega), fun b hb => zf_lt (by omega), by decide, by decide⟩
    · refine v_catch (ci := 10) (pre := [(0, 9, 12, 13)]) (post := []) (x := (0, 9, 15, 15)) rfl (by decide) ⟨by rw [hs9]; exact Nat.lt_succ_self _, hk9⟩ ⟨by decide, by decide, wl_Lw_15⟩ (List.forall_mem_cons.mpr ⟨⟨by decide, by decide, 9, by decide, by decide, wl_Lw_13⟩, fun _ h => absurd h List.not_mem_nil⟩) rfl ?_
      refine v_astore_n (L' := [(3, .ref k9), (0, .ref 0), (1, .int x), (2, .ref 148)]) d_Lw_type_15 rfl (by decide) rfl rfl ?_
      refine v_iconst (v := 2) d_Lw_type_16 (by decide) rfl ?_
      refine v_iret d_Lw_type_17 rfl ?_
      exact ⟨hS.ad _, 2, .inr 10, rfl, I1, J1, hQ, fun b hb => zf_lt (by omega), fun b hb => zf_lt (by omega), by decide, by decide⟩
set_option maxHeartbeats 4000000 in
set_option maxRecDepth 100000 in
theorem c_Lw_search {C : CT} {l : Launch} {S : ShT} {I : DI} {J : DJ} {d : Nat} (hC : OKC C l) (hS : SHP S) {n : Nat} {a : Int32} (hn40 : n ≤ 40) (hn : I 76 1 = nI n) (hE : ∀ e, e < 16 → ∃ m, m ≤ 30 ∧ I (28 + 3 * e) 2 = nI m) (hb : ∀ i, i < 16 → I 27 i = 0 ∨ I 27 i = 1) (hP : ∀ i, i < 16 → ∃ j, j < 16 ∧ I 3 i = nI j) (hd : 7 ≤ d) : Sp C l k_Lw_search y_Lw_search (d, 1, 6) [.ref 0, .int a, .ref 148] S I J (HP (cdT 2 0 1) (SeQ I J n a)) := by
  refine Sp.of hC cd_Lw_search (Nat.le_of_ble_eq_true rfl) ?_
  show V C l k_Lw_search (d, 1, 6) _ 0 [(0, .ref 0), (1, .int a), (2, .ref 148)] [] S I J (0, 0)
  refine v_aload_n 2 d_Lw_search_0 rfl rfl rfl ?_
  refine v_iconst (v := 0) d_Lw_search_1 (by decide) rfl ?_
  refine v_aload_n 0 d_Lw_search_2 rfl rfl rfl ?_
  refine v_iload_n 1 d_Lw_search_3 rfl rfl rfl ?_
  refine v_callV (as := [.int a]) d_Lw_search_4 cs_Lw_40 (c_Fi_search hC hS (d := d - 1) hn40 hn hE hb hP (by omega)) (hS.o (by decide) rfl) (by decide) rfl rfl rfl (by simp [Value.category]) (by show (d - 1) + 1 ≤ d; omega) ⟨Nat.le_of_ble_eq_true rfl, Nat.le_of_ble_eq_true rfl⟩ rfl (fun v9 S9 I9 J9 hP9 => ?_) (fun c9 k9 S9 I9 J9 hP9 hs9 hk9 => ?_)
  · obtain ⟨rfl, x9, rfl, hQ⟩ := hP9
    refine v_i2l d_Lw_search_7 rfl rfl ?_
    refine v_nml (fun z1 ez1 => ?_)
    refine v_last (j := 0) d_Lw_search_8 (hS.a (t := 34) (n := 1) (by decide) rfl) rfl (by decide) (by decide) rfl ?_
    refine v_goto (tgt := 18) d_Lw_search_9 (by decide) ?_
    refine v_iconst (v := 0) d_Lw_search_18 (by decide) rfl ?_
    refine v_iret d_Lw_search_19 rfl ?_
    exact ⟨hS, 0, .inl x9, rfl, I9, J9, hQ, fun _ _ => rfl, fun b hb => u2_o (by omega), rfl, by rw [u2_s]; exact ez1⟩
  · obtain ⟨rfl, I1, J1, rfl, rfl, hQ⟩ := hP9
    have hN : 149 ≤ S.1 := hS.1
    have hc := hQ.ex
    rcases hc with rfl | rfl
    · refine v_catch (ci := 9) (pre := [(0, 9, 12, 21)]) (post := []) (x := (0, 9, 15, 13)) rfl (by decide) ⟨by rw [hs9]; exact Nat.lt_succ_self _, hk9⟩ ⟨by decide, by decide, wl_Lw_13⟩ (List.forall_mem_cons.mpr ⟨⟨by decide, by decide, 11, by decide, by decide, wl_Lw_21⟩, fun _ h => absurd h List.not_mem_nil⟩) rfl ?_
      refine v_astore_n (L' := [(3, .ref k9), (0, .ref 0), (1, .int a), (2, .ref 148)]) d_Lw_search_15 rfl (by decide) rfl rfl ?_
      refine v_iconst (v := 2) d_Lw_search_16 (by decide) rfl ?_
      refine v_iret d_Lw_search_17 rfl ?_
      exact ⟨hS.ad _, 2, .inr 9, rfl, I1, J1, hQ, fun b hb => zf_lt (by omega), fun b hb => zf_lt (by omega), by decide, by decide⟩
    · refine v_catch (ci := 11) (pre := []) (post := [(0, 9, 15, 13)]) (x := (0, 9, 12, 21)) rfl (by decide) ⟨by rw [hs9]; exact Nat.lt_succ_self _, hk9⟩ ⟨by decide, by decide, wl_Lw_21⟩ (fun y hy => by cases hy) rfl ?_
      refine v_astore_n (L' := [(3, .ref k9), (0, .ref 0), (1, .int a), (2, .ref 148)]) d_Lw_search_12 rfl (by decide) rfl rfl ?_
      refine v_iconst (v := 1) d_Lw_search_13 (by decide) rfl ?_
      refine v_iret d_Lw_search_14 rfl ?_
      exact ⟨hS.ad _, 1, .inr 11, rfl, I1, J1, hQ, fun b hb => zf_lt (by omega), fun b hb => zf_lt (by omega), by decide, by decide⟩
set_option maxHeartbeats 4000000 in
set_option maxRecDepth 100000 in
theorem c_Lw_result {C : CT} {l : Launch} {S : ShT} {I : DI} {J : DJ} {d : Nat} (hC : OKC C l) (hS : SHP S) {q : Nat} {x y : Int32} (hq : I 121 2 = nI q) (hq16 : q ≤ 16) (hd : 7 ≤ d) : Sp C l k_Lw_result y_Lw_result (d, 1, 6) [.ref 0, .int x, .int y, .ref 148] S I J (HP (cdT 2 0 1) (RsQ I J q x y)) := by
  refine Sp.of hC cd_Lw_result (Nat.le_of_ble_eq_true rfl) ?_
  show V C l k_Lw_result (d, 1, 6) _ 0 [(0, .ref 0), (1, .int x), (2, .int y), (3, .ref 148)] [] S I J (0, 0)
  refine v_aload_n 3 d_Lw_result_0 rfl rfl rfl ?_
  refine v_iconst (v := 0) d_Lw_result_1 (by decide) rfl ?_
  refine v_aload_n 0 d_Lw_result_2 rfl rfl rfl ?_
  refine v_iload_n 1 d_Lw_result_3 rfl rfl rfl ?_
  refine v_iload_n 2 d_Lw_result_4 rfl rfl rfl ?_
  refine v_callV (as := [.int x, .int y]) d_Lw_result_5 cs_Lw_43 (c_Fi_result hC hS (d := d - 1) hq hq16 (by omega)) (hS.o (by decide) rfl) (by decide) rfl rfl rfl (by simp [Value.category]) (by show (d - 1) + 1 ≤ d; omega) ⟨Nat.le_of_ble_eq_true rfl, Nat.le_of_ble_eq_true rfl⟩ rfl (fun v9 S9 I9 J9 hP9 => ?_) (fun c9 k9 S9 I9 J9 hP9 hs9 hk9 => ?_)
  · obtain ⟨rfl, x9, rfl, hQ⟩ := hP9
    refine v_i2l d_Lw_result_8 rfl rfl ?_
    refine v_nml (fun z1 ez1 => ?_)
    refine v_last (j := 0) d_Lw_result_9 (hS.a (t := 34) (n := 1) (by decide) rfl) rfl (by decide) (by decide) rfl ?_
    refine v_goto (tgt := 21) d_Lw_result_10 (by decide) ?_
    refine v_iconst (v := 0) d_Lw_result_21 (by decide) rfl ?_
    refine v_iret d_Lw_result_22 rfl ?_
    exact ⟨hS, 0, .inl x9, rfl, I9, J9, hQ, fun _ _ => rfl, fun b hb => u2_o (by omega), rfl, by rw [u2_s]; exact ez1⟩
  · obtain ⟨rfl, I1, J1, rfl, rfl, hQ⟩ := hP9
    have hN : 149 ≤ S.1 := hS.1
    have hc := hQ.ex
    rcases hc with rfl | rfl
    · refine v_catch (ci := 9) (pre := [(0, 10, 13, 21)]) (post := []) (x := (0, 10, 17, 13)) rfl (by decide) ⟨by rw [hs9]; exact Nat.lt_succ_self _, hk9⟩ ⟨by decide, by decide, wl_Lw_13⟩ (List.forall_mem_cons.mpr ⟨⟨by decide, by decide, 11, by decide, by decide, wl_Lw_21⟩, fun _ h => absurd h List.not_mem_nil⟩) rfl ?_
      refine v_astore (L' := [(4, .ref k9), (0, .ref 0), (1, .int x), (2, .int y), (3, .ref 148)]) d_Lw_result_17 (by decide) rfl rfl ?_
      refine v_iconst (v := 2) d_Lw_result_19 (by decide) rfl ?_
      refine v_iret d_Lw_result_20 rfl ?_
      exact ⟨hS.ad _, 2, .inr 9, rfl, I1, J1, hQ, fun b hb => zf_lt (by omega), fun b hb => zf_lt (by omega), by decide, by decide⟩
    · refine v_catch (ci := 11) (pre := []) (post := [(0, 10, 17, 13)]) (x := (0, 10, 13, 21)) rfl (by decide) ⟨by rw [hs9]; exact Nat.lt_succ_self _, hk9⟩ ⟨by decide, by decide, wl_Lw_21⟩ (fun y hy => by cases hy) rfl ?_
      refine v_astore (L' := [(4, .ref k9), (0, .ref 0), (1, .int x), (2, .int y), (3, .ref 148)]) d_Lw_result_13 (by decide) rfl rfl ?_
      refine v_iconst (v := 1) d_Lw_result_15 (by decide) rfl ?_
      refine v_iret d_Lw_result_16 rfl ?_
      exact ⟨hS.ad _, 1, .inr 11, rfl, I1, J1, hQ, fun b hb => zf_lt (by omega), fun b hb => zf_lt (by omega), by decide, by decide⟩
set_option maxHeartbeats 4000000 in
set_option maxRecDepth 100000 in
theorem c_Lw_words {C : CT} {l : Launch} {S : ShT} {I : DI} {J : DJ} {d : Nat} (hC : OKC C l) (hS : SHP S) {x : Int32} (hb : ∀ i, i < 16 → I 27 i = 0 ∨ I 27 i = 1) (hd : 7 ≤ d) : Sp C l k_Lw_words y_Lw_words (d, 1, 6) [.ref 0, .int x, .ref 148] S I J (HP (cdT 0 0 1) (WoQ I J x)) := by
  refine Sp.of hC cd_Lw_words (Nat.le_of_ble_eq_true rfl) ?_
  show V C l k_Lw_words (d, 1, 6) _ 0 [(0, .ref 0), (1, .int x), (2, .ref 148)] [] S I J (0, 0)
  refine v_aload_n 2 d_Lw_words_0 rfl rfl rfl ?_
  refine v_iconst (v := 0) d_Lw_words_1 (by decide) rfl ?_
  refine v_aload_n 0 d_Lw_words_2 rfl rfl rfl ?_
  refine v_iload_n 1 d_Lw_words_3 rfl rfl rfl ?_
  refine v_callV (as := [.int x]) d_Lw_words_4 cs_Lw_46 (c_Fi_words hC hS (d := d - 1) hb (by omega)) (hS.o (by decide) rfl) (by decide) rfl rfl rfl (by simp [Value.category]) (by show (d - 1) + 1 ≤ d; omega) ⟨Nat.le_of_ble_eq_true rfl, Nat.le_of_ble_eq_true rfl⟩ rfl (fun v9 S9 I9 J9 hP9 => ?_) (fun c9 k9 S9 I9 J9 hP9 hs9 hk9 => ?_)
  · obtain ⟨rfl, x9, rfl, hQ⟩ := hP9
    refine v_i2l d_Lw_words_7 rfl rfl ?_
    refine v_nml (fun z1 ez1 => ?_)
    refine v_last (j := 0) d_Lw_words_8 (hS.a (t := 34) (n := 1) (by decide) rfl) rfl (by decide) (by decide) rfl ?_
    refine v_goto (tgt := 15) d_Lw_words_9 (by decide) ?_
    refine v_iconst (v := 0) d_Lw_words_15 (by decide) rfl ?_
    refine v_iret d_Lw_words_16 rfl ?_
    exact ⟨hS, 0, .inl x9, rfl, I9, J9, hQ, fun _ _ => rfl, fun b hb => u2_o (by omega), rfl, by rw [u2_s]; exact ez1⟩
  · obtain ⟨rfl, I1, J1, rfl, rfl, hQ⟩ := hP9
    have hN : 149 ≤ S.1 := hS.1
    have hc := hQ.ex
    subst hc
    refine v_catch (ci := 11) (pre := []) (post := []) (x := (0, 9, 12, 21)) rfl (by decide) ⟨by rw [hs9]; exact Nat.lt_succ_self _, hk9⟩ ⟨by decide, by decide, wl_Lw_21⟩ (fun y hy => by cases hy) rfl ?_
    refine v_astore_n (L' := [(3, .ref k9), (0, .ref 0), (1, .int x), (2, .ref 148)]) d_Lw_words_12 rfl (by decide) rfl rfl ?_
    refine v_iconst (v := 1) d_Lw_words_13 (by decide) rfl ?_
    refine v_iret d_Lw_words_14 rfl ?_
    exact ⟨hS.ad _, 1, .inr 11, rfl, I1, J1, hQ, fun b hb => zf_lt (by omega), fun b hb => zf_lt (by omega), by decide, by decide⟩
set_option maxHeartbeats 4000000 in
set_option maxRecDepth 100000 in
theorem c_Lw_event {C : CT} {l : Launch} {S : ShT} {I : DI} {J : DJ} {d : Nat} (hC : OKC C l) (hS : SHP S) {m : Nat} {x : Int32} (hm : m ≤ 8) (h2 : I 22 2 = nI m) (hd : 7 ≤ d) : Sp C l k_Lw_event y_Lw_event (d, 1, 6) [.ref 0, .int x, .ref 148] S I J (HP (cdT 0 0 1) (EvQ I J m x)) := by
  refine Sp.of hC cd_Lw_event (Nat.le_of_ble_eq_true rfl) ?_
  show V C l k_Lw_event (d, 1, 6) _ 0 [(0, .ref 0), (1, .int x), (2, .ref 148)] [] S I J (0, 0)
  refine v_aload_n 2 d_Lw_event_0 rfl rfl rfl ?_
  refine v_iconst (v := 0) d_Lw_event_1 (by decide) rfl ?_
  refine v_aload_n 0 d_Lw_event_2 rfl rfl rfl ?_
  refine v_iload_n 1 d_Lw_event_3 rfl rfl rfl ?_
  refine v_callV (as := [.int x]) d_Lw_event_4 cs_Lw_49 (c_Fi_event hC hS (d := d - 1) hm h2 (by omega)) (hS.o (by decide) rfl) (by decide) rfl rfl rfl (by simp [Value.category]) (by show (d - 1) + 1 ≤ d; omega) ⟨Nat.le_of_ble_eq_true rfl, Nat.le_of_ble_eq_true rfl⟩ rfl (fun v9 S9 I9 J9 hP9 => ?_) (fun c9 k9 S9 I9 J9 hP9 hs9 hk9 => ?_)
  · obtain ⟨rfl, x9, rfl, hQ⟩ := hP9
    refine v_i2l d_Lw_event_7 rfl rfl ?_
    refine v_nml (fun z1 ez1 => ?_)
    refine v_last (j := 0) d_Lw_event_8 (hS.a (t := 34) (n := 1) (by decide) rfl) rfl (by decide) (by decide) rfl ?_
    refine v_goto (tgt := 15) d_Lw_event_9 (by decide) ?_
    refine v_iconst (v := 0) d_Lw_event_15 (by decide) rfl ?_
    refine v_iret d_Lw_event_16 rfl ?_
    exact ⟨hS, 0, .inl x9, rfl, I9, J9, hQ, fun _ _ => rfl, fun b hb => u2_o (by omega), rfl, by rw [u2_s]; exact ez1⟩
  · obtain ⟨rfl, I1, J1, rfl, rfl, hQ⟩ := hP9
    have hN : 149 ≤ S.1 := hS.1
    have hc := hQ.ex
    subst hc
    refine v_catch (ci := 11) (pre := []) (post := []) (x := (0, 9, 12, 21)) rfl (by decide) ⟨by rw [hs9]; exact Nat.lt_succ_self _, hk9⟩ ⟨by decide, by decide, wl_Lw_21⟩ (fun y hy => by cases hy) rfl ?_
    refine v_astore_n (L' := [(3, .ref k9), (0, .ref 0), (1, .int x), (2, .ref 148)]) d_Lw_event_12 rfl (by decide) rfl rfl ?_
    refine v_iconst (v := 1) d_Lw_event_13 (by decide) rfl ?_
    refine v_iret d_Lw_event_14 rfl ?_
    exact ⟨hS.ad _, 1, .inr 11, rfl, I1, J1, hQ, fun b hb => zf_lt (by omega), fun b hb => zf_lt (by omega), by decide, by decide⟩
set_option maxHeartbeats 4000000 in
set_option maxRecDepth 100000 in
theorem c_Lw_count {C : CT} {l : Launch} {S : ShT} {I : DI} {J : DJ} {d : Nat} (hC : OKC C l) (hS : SHP S) {x : Int32} (hb : ∀ i, i < 16 → I 27 i = 0 ∨ I 27 i = 1) (hlo : I 22 3 = 0 ∨ I 22 3 = 1) (hd : 7 ≤ d) : Sp C l k_Lw_count y_Lw_count (d, 1, 6) [.ref 0, .int x, .ref 148] S I J (HP (cdT 1 0 0) (CnQ I J x)) := by
  refine Sp.of hC cd_Lw_count (Nat.le_of_ble_eq_true rfl) ?_
  show V C l k_Lw_count (d, 1, 6) _ 0 [(0, .ref 0), (1, .int x), (2, .ref 148)] [] S I J (0, 0)
  refine v_aload_n 2 d_Lw_count_0 rfl rfl rfl ?_
  refine v_iconst (v := 0) d_Lw_count_1 (by decide) rfl ?_
  refine v_aload_n 0 d_Lw_count_2 rfl rfl rfl ?_
  refine v_iload_n 1 d_Lw_count_3 rfl rfl rfl ?_
  refine v_callV (as := [.int x]) d_Lw_count_4 cs_Lw_52 (c_Fi_count hC hS (d := d - 1) hb hlo (by omega)) (hS.o (by decide) rfl) (by decide) rfl rfl rfl (by simp [Value.category]) (by show (d - 1) + 1 ≤ d; omega) ⟨Nat.le_of_ble_eq_true rfl, Nat.le_of_ble_eq_true rfl⟩ rfl (fun v9 S9 I9 J9 hP9 => ?_) (fun c9 k9 S9 I9 J9 hP9 hs9 hk9 => ?_)
  · obtain ⟨rfl, x9, rfl, hQ⟩ := hP9
    refine v_i2l d_Lw_count_7 rfl rfl ?_
    refine v_nml (fun z1 ez1 => ?_)
    refine v_last (j := 0) d_Lw_count_8 (hS.a (t := 34) (n := 1) (by decide) rfl) rfl (by decide) (by decide) rfl ?_
    refine v_goto (tgt := 15) d_Lw_count_9 (by decide) ?_
    refine v_iconst (v := 0) d_Lw_count_15 (by decide) rfl ?_
    refine v_iret d_Lw_count_16 rfl ?_
    exact ⟨hS, 0, .inl x9, rfl, I9, J9, hQ, fun _ _ => rfl, fun b hb => u2_o (by omega), rfl, by rw [u2_s]; exact ez1⟩
  · obtain ⟨rfl, I1, J1, rfl, rfl, hQ⟩ := hP9
    have hN : 149 ≤ S.1 := hS.1
    have hc := hQ.ex
    subst hc
    refine v_catch (ci := 9) (pre := []) (post := []) (x := (0, 9, 12, 13)) rfl (by decide) ⟨by rw [hs9]; exact Nat.lt_succ_self _, hk9⟩ ⟨by decide, by decide, wl_Lw_13⟩ (fun y hy => by cases hy) rfl ?_
    refine v_astore_n (L' := [(3, .ref k9), (0, .ref 0), (1, .int x), (2, .ref 148)]) d_Lw_count_12 rfl (by decide) rfl rfl ?_
    refine v_iconst (v := 1) d_Lw_count_13 (by decide) rfl ?_
    refine v_iret d_Lw_count_14 rfl ?_
    exact ⟨hS.ad _, 1, .inr 9, rfl, I1, J1, hQ, fun b hb => zf_lt (by omega), fun b hb => zf_lt (by omega), by decide, by decide⟩
