section
-- ===== PART A: goes FIRST, ahead of the names: the tables' words, and 'selects' of the private methods out of them =====
/-- a private method of a class that the tables say can be made, by its rows of tables_1 -/
def lw_okq (q : MethodName × Nat) : Prop := (q.1.cls ≠ "java/lang/invoke/MethodHandle" ∧ q.1.cls ≠ "java/lang/invoke/VarHandle") ∧ Cond.instantiable q.1.cls q.2 ∈ tables_1 ∧ Cond.privateMethod q.1 ∈ tables_1 ∧ Cond.instanceMethod q.1 ∈ tables_1
theorem lw_p0 : lw_okq (⟨"FileIndexer", "readFile", "(I)V"⟩, 6) := ⟨⟨by decide +kernel, by decide +kernel⟩, List.mem_of_getElem? (i := 18) (by decide +kernel), List.mem_of_getElem? (i := 199) (by decide +kernel), List.mem_of_getElem? (i := 200) (by decide +kernel)⟩
theorem lw_p1 : lw_okq (⟨"FileIndexer$Entry", "add", "(JI)V"⟩, 3) := ⟨⟨by decide +kernel, by decide +kernel⟩, List.mem_of_getElem? (i := 74) (by decide +kernel), List.mem_of_getElem? (i := 228) (by decide +kernel), List.mem_of_getElem? (i := 229) (by decide +kernel)⟩
theorem lw_p2 : lw_okq (⟨"java/lang/Throwable", "fillInStackTrace", "(I)Ljava/lang/Throwable;"⟩, 6) := ⟨⟨by decide +kernel, by decide +kernel⟩, List.mem_of_getElem? (i := 295) (by decide +kernel), List.mem_of_getElem? (i := 293) (by decide +kernel), List.mem_of_getElem? (i := 294) (by decide +kernel)⟩
theorem lw_p3 : lw_okq (⟨"FileIndexer$Queue", "placeOf", "(I)I"⟩, 4) := ⟨⟨by decide +kernel, by decide +kernel⟩, List.mem_of_getElem? (i := 48) (by decide +kernel), List.mem_of_getElem? (i := 351) (by decide +kernel), List.mem_of_getElem? (i := 352) (by decide +kernel)⟩
theorem lw_p4 : lw_okq (⟨"FileIndexer$Queue", "putTogether", "(II)V"⟩, 4) := ⟨⟨by decide +kernel, by decide +kernel⟩, List.mem_of_getElem? (i := 48) (by decide +kernel), List.mem_of_getElem? (i := 355) (by decide +kernel), List.mem_of_getElem? (i := 356) (by decide +kernel)⟩
theorem lw_p5 : lw_okq (⟨"FileIndexer", "removeOne", "(I)V"⟩, 6) := ⟨⟨by decide +kernel, by decide +kernel⟩, List.mem_of_getElem? (i := 18) (by decide +kernel), List.mem_of_getElem? (i := 422) (by decide +kernel), List.mem_of_getElem? (i := 423) (by decide +kernel)⟩
theorem lw_p6 : lw_okq (⟨"FileIndexer", "follow", "(II)V"⟩, 6) := ⟨⟨by decide +kernel, by decide +kernel⟩, List.mem_of_getElem? (i := 18) (by decide +kernel), List.mem_of_getElem? (i := 471) (by decide +kernel), List.mem_of_getElem? (i := 472) (by decide +kernel)⟩
theorem lw_p7 : lw_okq (⟨"FileIndexer$Query", "parseAlternative", "()V"⟩, 7) := ⟨⟨by decide +kernel, by decide +kernel⟩, List.mem_of_getElem? (i := 102) (by decide +kernel), List.mem_of_getElem? (i := 506) (by decide +kernel), List.mem_of_getElem? (i := 507) (by decide +kernel)⟩
theorem lw_p8 : lw_okq (⟨"FileIndexer$Query", "skipBlanks", "()V"⟩, 7) := ⟨⟨by decide +kernel, by decide +kernel⟩, List.mem_of_getElem? (i := 102) (by decide +kernel), List.mem_of_getElem? (i := 510) (by decide +kernel), List.mem_of_getElem? (i := 511) (by decide +kernel)⟩
theorem lw_p9 : lw_okq (⟨"FileIndexer$Query", "parseTerm", "()V"⟩, 7) := ⟨⟨by decide +kernel, by decide +kernel⟩, List.mem_of_getElem? (i := 102) (by decide +kernel), List.mem_of_getElem? (i := 514) (by decide +kernel), List.mem_of_getElem? (i := 515) (by decide +kernel)⟩
theorem lw_p10 : lw_okq (⟨"FileIndexer$Query", "next", "()I"⟩, 7) := ⟨⟨by decide +kernel, by decide +kernel⟩, List.mem_of_getElem? (i := 102) (by decide +kernel), List.mem_of_getElem? (i := 523) (by decide +kernel), List.mem_of_getElem? (i := 524) (by decide +kernel)⟩
theorem lw_p11 : lw_okq (⟨"FileIndexer$Query", "parsePhrase", "(LFileIndexer$Term;)V"⟩, 7) := ⟨⟨by decide +kernel, by decide +kernel⟩, List.mem_of_getElem? (i := 102) (by decide +kernel), List.mem_of_getElem? (i := 531) (by decide +kernel), List.mem_of_getElem? (i := 532) (by decide +kernel)⟩
theorem lw_p12 : lw_okq (⟨"FileIndexer$Query", "isFaulty", "()Z"⟩, 7) := ⟨⟨by decide +kernel, by decide +kernel⟩, List.mem_of_getElem? (i := 102) (by decide +kernel), List.mem_of_getElem? (i := 535) (by decide +kernel), List.mem_of_getElem? (i := 536) (by decide +kernel)⟩
theorem lw_p13 : lw_okq (⟨"FileIndexer$Query", "parseWord", "(LFileIndexer$Term;)V"⟩, 7) := ⟨⟨by decide +kernel, by decide +kernel⟩, List.mem_of_getElem? (i := 102) (by decide +kernel), List.mem_of_getElem? (i := 540) (by decide +kernel), List.mem_of_getElem? (i := 541) (by decide +kernel)⟩
theorem lw_p14 : lw_okq (⟨"FileIndexer$Query", "parseWordOrBeginning", "(LFileIndexer$Term;)V"⟩, 7) := ⟨⟨by decide +kernel, by decide +kernel⟩, List.mem_of_getElem? (i := 102) (by decide +kernel), List.mem_of_getElem? (i := 553) (by decide +kernel), List.mem_of_getElem? (i := 554) (by decide +kernel)⟩
theorem lw_p15 : lw_okq (⟨"FileIndexer$Query", "endTerm", "()V"⟩, 7) := ⟨⟨by decide +kernel, by decide +kernel⟩, List.mem_of_getElem? (i := 102) (by decide +kernel), List.mem_of_getElem? (i := 561) (by decide +kernel), List.mem_of_getElem? (i := 562) (by decide +kernel)⟩
def lw_privs_1 : List (MethodName × Nat) := [(⟨"FileIndexer", "readFile", "(I)V"⟩, 6), (⟨"FileIndexer$Entry", "add", "(JI)V"⟩, 3), (⟨"java/lang/Throwable", "fillInStackTrace", "(I)Ljava/lang/Throwable;"⟩, 6), (⟨"FileIndexer$Queue", "placeOf", "(I)I"⟩, 4), (⟨"FileIndexer$Queue", "putTogether", "(II)V"⟩, 4), (⟨"FileIndexer", "removeOne", "(I)V"⟩, 6), (⟨"FileIndexer", "follow", "(II)V"⟩, 6), (⟨"FileIndexer$Query", "parseAlternative", "()V"⟩, 7), (⟨"FileIndexer$Query", "skipBlanks", "()V"⟩, 7), (⟨"FileIndexer$Query", "parseTerm", "()V"⟩, 7), (⟨"FileIndexer$Query", "next", "()I"⟩, 7), (⟨"FileIndexer$Query", "parsePhrase", "(LFileIndexer$Term;)V"⟩, 7), (⟨"FileIndexer$Query", "isFaulty", "()Z"⟩, 7), (⟨"FileIndexer$Query", "parseWord", "(LFileIndexer$Term;)V"⟩, 7), (⟨"FileIndexer$Query", "parseWordOrBeginning", "(LFileIndexer$Term;)V"⟩, 7), (⟨"FileIndexer$Query", "endTerm", "()V"⟩, 7)]
theorem lw_r1 : ∀ q ∈ lw_privs_1, lw_okq q := List.forall_mem_cons.mpr ⟨lw_p0, List.forall_mem_cons.mpr ⟨lw_p1, List.forall_mem_cons.mpr ⟨lw_p2, List.forall_mem_cons.mpr ⟨lw_p3, List.forall_mem_cons.mpr ⟨lw_p4, List.forall_mem_cons.mpr ⟨lw_p5, List.forall_mem_cons.mpr ⟨lw_p6, List.forall_mem_cons.mpr ⟨lw_p7, List.forall_mem_cons.mpr ⟨lw_p8, List.forall_mem_cons.mpr ⟨lw_p9, List.forall_mem_cons.mpr ⟨lw_p10, List.forall_mem_cons.mpr ⟨lw_p11, List.forall_mem_cons.mpr ⟨lw_p12, List.forall_mem_cons.mpr ⟨lw_p13, List.forall_mem_cons.mpr ⟨lw_p14, List.forall_mem_cons.mpr ⟨lw_p15, fun _ h => absurd h List.not_mem_nil⟩⟩⟩⟩⟩⟩⟩⟩⟩⟩⟩⟩⟩⟩⟩⟩
theorem lw_p16 : lw_okq (⟨"FileIndexer$Query", "atAlternativeEnd", "()Z"⟩, 7) := ⟨⟨by decide +kernel, by decide +kernel⟩, List.mem_of_getElem? (i := 102) (by decide +kernel), List.mem_of_getElem? (i := 565) (by decide +kernel), List.mem_of_getElem? (i := 566) (by decide +kernel)⟩
theorem lw_p17 : lw_okq (⟨"FileIndexer", "isSearched", "(II)Z"⟩, 6) := ⟨⟨by decide +kernel, by decide +kernel⟩, List.mem_of_getElem? (i := 18) (by decide +kernel), List.mem_of_getElem? (i := 578) (by decide +kernel), List.mem_of_getElem? (i := 579) (by decide +kernel)⟩
theorem lw_p18 : lw_okq (⟨"FileIndexer", "rank", "(I)V"⟩, 6) := ⟨⟨by decide +kernel, by decide +kernel⟩, List.mem_of_getElem? (i := 18) (by decide +kernel), List.mem_of_getElem? (i := 582) (by decide +kernel), List.mem_of_getElem? (i := 583) (by decide +kernel)⟩
theorem lw_p19 : lw_okq (⟨"FileIndexer$Query", "partOf", "(LFileIndexer$Entry;I)I"⟩, 7) := ⟨⟨by decide +kernel, by decide +kernel⟩, List.mem_of_getElem? (i := 102) (by decide +kernel), List.mem_of_getElem? (i := 594) (by decide +kernel), List.mem_of_getElem? (i := 595) (by decide +kernel)⟩
theorem lw_p20 : lw_okq (⟨"FileIndexer$Term", "hits", "(LFileIndexer$Entry;I)Z"⟩, 5) := ⟨⟨by decide +kernel, by decide +kernel⟩, List.mem_of_getElem? (i := 109) (by decide +kernel), List.mem_of_getElem? (i := 610) (by decide +kernel), List.mem_of_getElem? (i := 611) (by decide +kernel)⟩
theorem lw_p21 : lw_okq (⟨"FileIndexerModel", "raise", "(I)I"⟩, 34) := ⟨⟨by decide +kernel, by decide +kernel⟩, List.mem_of_getElem? (i := 691) (by decide +kernel), List.mem_of_getElem? (i := 811) (by decide +kernel), List.mem_of_getElem? (i := 812) (by decide +kernel)⟩
theorem lw_p22 : lw_okq (⟨"FileIndexerModel", "isFolder", "(I)Z"⟩, 34) := ⟨⟨by decide +kernel, by decide +kernel⟩, List.mem_of_getElem? (i := 691) (by decide +kernel), List.mem_of_getElem? (i := 815) (by decide +kernel), List.mem_of_getElem? (i := 816) (by decide +kernel)⟩
theorem lw_p23 : lw_okq (⟨"FileIndexerModel", "tell", "(II)V"⟩, 34) := ⟨⟨by decide +kernel, by decide +kernel⟩, List.mem_of_getElem? (i := 691) (by decide +kernel), List.mem_of_getElem? (i := 819) (by decide +kernel), List.mem_of_getElem? (i := 820) (by decide +kernel)⟩
theorem lw_p24 : lw_okq (⟨"FileIndexerModel", "drop", "(I)V"⟩, 34) := ⟨⟨by decide +kernel, by decide +kernel⟩, List.mem_of_getElem? (i := 691) (by decide +kernel), List.mem_of_getElem? (i := 826) (by decide +kernel), List.mem_of_getElem? (i := 827) (by decide +kernel)⟩
theorem lw_p25 : lw_okq (⟨"FileIndexerModel", "isFile", "(I)Z"⟩, 34) := ⟨⟨by decide +kernel, by decide +kernel⟩, List.mem_of_getElem? (i := 691) (by decide +kernel), List.mem_of_getElem? (i := 834) (by decide +kernel), List.mem_of_getElem? (i := 835) (by decide +kernel)⟩
theorem lw_p26 : lw_okq (⟨"FileIndexerModel", "mark", "(I)V"⟩, 34) := ⟨⟨by decide +kernel, by decide +kernel⟩, List.mem_of_getElem? (i := 691) (by decide +kernel), List.mem_of_getElem? (i := 846) (by decide +kernel), List.mem_of_getElem? (i := 847) (by decide +kernel)⟩
theorem lw_p27 : lw_okq (⟨"FileIndexerModel", "within", "(II)Z"⟩, 34) := ⟨⟨by decide +kernel, by decide +kernel⟩, List.mem_of_getElem? (i := 691) (by decide +kernel), List.mem_of_getElem? (i := 850) (by decide +kernel), List.mem_of_getElem? (i := 851) (by decide +kernel)⟩
theorem lw_p28 : lw_okq (⟨"FileIndexerModel", "read", "(I)V"⟩, 34) := ⟨⟨by decide +kernel, by decide +kernel⟩, List.mem_of_getElem? (i := 691) (by decide +kernel), List.mem_of_getElem? (i := 862) (by decide +kernel), List.mem_of_getElem? (i := 863) (by decide +kernel)⟩
theorem lw_p29 : lw_okq (⟨"FileIndexerModel", "parse", "()I"⟩, 34) := ⟨⟨by decide +kernel, by decide +kernel⟩, List.mem_of_getElem? (i := 691) (by decide +kernel), List.mem_of_getElem? (i := 881) (by decide +kernel), List.mem_of_getElem? (i := 882) (by decide +kernel)⟩
theorem lw_p30 : lw_okq (⟨"FileIndexerModel", "blanks", "()V"⟩, 34) := ⟨⟨by decide +kernel, by decide +kernel⟩, List.mem_of_getElem? (i := 691) (by decide +kernel), List.mem_of_getElem? (i := 885) (by decide +kernel), List.mem_of_getElem? (i := 886) (by decide +kernel)⟩
theorem lw_p31 : lw_okq (⟨"FileIndexerModel", "now", "()I"⟩, 34) := ⟨⟨by decide +kernel, by decide +kernel⟩, List.mem_of_getElem? (i := 691) (by decide +kernel), List.mem_of_getElem? (i := 889) (by decide +kernel), List.mem_of_getElem? (i := 890) (by decide +kernel)⟩
def lw_privs_2 : List (MethodName × Nat) := [(⟨"FileIndexer$Query", "atAlternativeEnd", "()Z"⟩, 7), (⟨"FileIndexer", "isSearched", "(II)Z"⟩, 6), (⟨"FileIndexer", "rank", "(I)V"⟩, 6), (⟨"FileIndexer$Query", "partOf", "(LFileIndexer$Entry;I)I"⟩, 7), (⟨"FileIndexer$Term", "hits", "(LFileIndexer$Entry;I)Z"⟩, 5), (⟨"FileIndexerModel", "raise", "(I)I"⟩, 34), (⟨"FileIndexerModel", "isFolder", "(I)Z"⟩, 34), (⟨"FileIndexerModel", "tell", "(II)V"⟩, 34), (⟨"FileIndexerModel", "drop", "(I)V"⟩, 34), (⟨"FileIndexerModel", "isFile", "(I)Z"⟩, 34), (⟨"FileIndexerModel", "mark", "(I)V"⟩, 34), (⟨"FileIndexerModel", "within", "(II)Z"⟩, 34), (⟨"FileIndexerModel", "read", "(I)V"⟩, 34), (⟨"FileIndexerModel", "parse", "()I"⟩, 34), (⟨"FileIndexerModel", "blanks", "()V"⟩, 34), (⟨"FileIndexerModel", "now", "()I"⟩, 34)]
theorem lw_r2 : ∀ q ∈ lw_privs_2, lw_okq q := List.forall_mem_cons.mpr ⟨lw_p16, List.forall_mem_cons.mpr ⟨lw_p17, List.forall_mem_cons.mpr ⟨lw_p18, List.forall_mem_cons.mpr ⟨lw_p19, List.forall_mem_cons.mpr ⟨lw_p20, List.forall_mem_cons.mpr ⟨lw_p21, List.forall_mem_cons.mpr ⟨lw_p22, List.forall_mem_cons.mpr ⟨lw_p23, List.forall_mem_cons.mpr ⟨lw_p24, List.forall_mem_cons.mpr ⟨lw_p25, List.forall_mem_cons.mpr ⟨lw_p26, List.forall_mem_cons.mpr ⟨lw_p27, List.forall_mem_cons.mpr ⟨lw_p28, List.forall_mem_cons.mpr ⟨lw_p29, List.forall_mem_cons.mpr ⟨lw_p30, List.forall_mem_cons.mpr ⟨lw_p31, fun _ h => absurd h List.not_mem_nil⟩⟩⟩⟩⟩⟩⟩⟩⟩⟩⟩⟩⟩⟩⟩⟩
theorem lw_p32 : lw_okq (⟨"FileIndexerModel", "takeTerm", "(I)V"⟩, 34) := ⟨⟨by decide +kernel, by decide +kernel⟩, List.mem_of_getElem? (i := 691) (by decide +kernel), List.mem_of_getElem? (i := 893) (by decide +kernel), List.mem_of_getElem? (i := 894) (by decide +kernel)⟩
theorem lw_p33 : lw_okq (⟨"FileIndexerModel", "takePhrase", "()V"⟩, 34) := ⟨⟨by decide +kernel, by decide +kernel⟩, List.mem_of_getElem? (i := 691) (by decide +kernel), List.mem_of_getElem? (i := 897) (by decide +kernel), List.mem_of_getElem? (i := 898) (by decide +kernel)⟩
theorem lw_p34 : lw_okq (⟨"FileIndexerModel", "blame", "()V"⟩, 34) := ⟨⟨by decide +kernel, by decide +kernel⟩, List.mem_of_getElem? (i := 691) (by decide +kernel), List.mem_of_getElem? (i := 901) (by decide +kernel), List.mem_of_getElem? (i := 902) (by decide +kernel)⟩
theorem lw_p35 : lw_okq (⟨"FileIndexerModel", "takeWord", "()V"⟩, 34) := ⟨⟨by decide +kernel, by decide +kernel⟩, List.mem_of_getElem? (i := 691) (by decide +kernel), List.mem_of_getElem? (i := 905) (by decide +kernel), List.mem_of_getElem? (i := 906) (by decide +kernel)⟩
theorem lw_p36 : lw_okq (⟨"FileIndexerModel", "score", "(II)I"⟩, 34) := ⟨⟨by decide +kernel, by decide +kernel⟩, List.mem_of_getElem? (i := 691) (by decide +kernel), List.mem_of_getElem? (i := 909) (by decide +kernel), List.mem_of_getElem? (i := 910) (by decide +kernel)⟩
theorem lw_p37 : lw_okq (⟨"FileIndexerModel", "hits", "(II)I"⟩, 34) := ⟨⟨by decide +kernel, by decide +kernel⟩, List.mem_of_getElem? (i := 691) (by decide +kernel), List.mem_of_getElem? (i := 913) (by decide +kernel), List.mem_of_getElem? (i := 914) (by decide +kernel)⟩
theorem lw_p38 : lw_okq (⟨"FileIndexerModel", "hit", "(II)Z"⟩, 34) := ⟨⟨by decide +kernel, by decide +kernel⟩, List.mem_of_getElem? (i := 691) (by decide +kernel), List.mem_of_getElem? (i := 917) (by decide +kernel), List.mem_of_getElem? (i := 918) (by decide +kernel)⟩
theorem lw_p39 : lw_okq (⟨"FileIndexerModel", "place", "(II)V"⟩, 34) := ⟨⟨by decide +kernel, by decide +kernel⟩, List.mem_of_getElem? (i := 691) (by decide +kernel), List.mem_of_getElem? (i := 921) (by decide +kernel), List.mem_of_getElem? (i := 922) (by decide +kernel)⟩
def lw_privs_3 : List (MethodName × Nat) := [(⟨"FileIndexerModel", "takeTerm", "(I)V"⟩, 34), (⟨"FileIndexerModel", "takePhrase", "()V"⟩, 34), (⟨"FileIndexerModel", "blame", "()V"⟩, 34), (⟨"FileIndexerModel", "takeWord", "()V"⟩, 34), (⟨"FileIndexerModel", "score", "(II)I"⟩, 34), (⟨"FileIndexerModel", "hits", "(II)I"⟩, 34), (⟨"FileIndexerModel", "hit", "(II)Z"⟩, 34), (⟨"FileIndexerModel", "place", "(II)V"⟩, 34)]
theorem lw_r3 : ∀ q ∈ lw_privs_3, lw_okq q := List.forall_mem_cons.mpr ⟨lw_p32, List.forall_mem_cons.mpr ⟨lw_p33, List.forall_mem_cons.mpr ⟨lw_p34, List.forall_mem_cons.mpr ⟨lw_p35, List.forall_mem_cons.mpr ⟨lw_p36, List.forall_mem_cons.mpr ⟨lw_p37, List.forall_mem_cons.mpr ⟨lw_p38, List.forall_mem_cons.mpr ⟨lw_p39, fun _ h => absurd h List.not_mem_nil⟩⟩⟩⟩⟩⟩⟩⟩
def lw_privs : List (MethodName × Nat) := lw_privs_1 ++ (lw_privs_2 ++ (lw_privs_3))
def lw_tbl : List Cond := k2_sels lw_privs ++ tables_1
theorem lw_privs_ok : ∀ q ∈ lw_privs, lw_okq q := by
  show ∀ q ∈ lw_privs_1 ++ (lw_privs_2 ++ (lw_privs_3)), lw_okq q
  exact List.forall_mem_append.mpr ⟨lw_r1, List.forall_mem_append.mpr ⟨lw_r2, lw_r3⟩⟩
end
section
-- NAMES, printed by wip/gen/parts1.py out of the claim's listings
def Wd (w : Cond) : Prop := w ∈ lw_tbl ∧ goodWord w = true
theorem lw_in {w : Cond} (h : w ∈ tables_1) : w ∈ lw_tbl := List.mem_append_right _ h
theorem Wd.t {w : Cond} (i : Nat) (h : tables_1[i]? = some w) (g : goodWord w = true) : Wd w := ⟨lw_in (List.mem_of_getElem? h), g⟩
def kT0 : u_T := fun k => match k with
  | 0 => ("FileIndexer$Entry", "spellings", "[J", true)
  | 1 => ("FileIndexer$Entry", "weights", "[I", true)
  | _ => ("FileIndexer$Entry", "size", "I", false)
def kY0 : Nat → FieldType := fun k => match k with
  | 0 => .array .long
  | 1 => .array .int
  | _ => .int
def kT1 : u_T := fun k => match k with
  | 0 => ("FileIndexer$Index", "entries", "[LFileIndexer$Entry;", true)
  | 1 => ("FileIndexer$Index", "held", "[Z", true)
  | _ => ("FileIndexer$Index", "timesRead", "I", false)
def kY1 : Nat → FieldType := fun k => match k with
  | 0 => .array (.object "FileIndexer$Entry")
  | 1 => .array .boolean
  | _ => .int
def kT2 : u_T := fun k => match k with
  | 0 => ("FileIndexer$Query", "text", "[I", true)
  | 1 => ("FileIndexer$Query", "length", "I", false)
  | 2 => ("FileIndexer$Query", "terms", "[LFileIndexer$Term;", true)
  | 3 => ("FileIndexer$Query", "termsFound", "I", false)
  | 4 => ("FileIndexer$Query", "alternatives", "I", false)
  | 5 => ("FileIndexer$Query", "at", "I", false)
  | _ => ("FileIndexer$Query", "firstFault", "I", false)
def kY2 : Nat → FieldType := fun k => match k with
  | 0 => .array .int
  | 1 => .int
  | 2 => .array (.object "FileIndexer$Term")
  | 3 => .int
  | 4 => .int
  | 5 => .int
  | _ => .int
def kT3 : u_T := fun k => match k with
  | 0 => ("FileIndexer$Queue", "kinds", "[I", true)
  | 1 => ("FileIndexer$Queue", "files", "[I", true)
  | 2 => ("FileIndexer$Queue", "size", "I", false)
  | _ => ("FileIndexer$Queue", "lost", "Z", false)
def kY3 : Nat → FieldType := fun k => match k with
  | 0 => .array .int
  | 1 => .array .int
  | 2 => .int
  | _ => .boolean
def kT4 : u_T := fun k => match k with
  | 0 => ("FileIndexer$Ranking", "files", "[I", true)
  | 1 => ("FileIndexer$Ranking", "scores", "[I", true)
  | _ => ("FileIndexer$Ranking", "size", "I", false)
def kY4 : Nat → FieldType := fun k => match k with
  | 0 => .array .int
  | 1 => .array .int
  | _ => .int
def kT5 : u_T := fun k => match k with
  | 0 => ("FileIndexer$Term", "spellings", "[J", true)
  | 1 => ("FileIndexer$Term", "size", "I", false)
  | 2 => ("FileIndexer$Term", "alternative", "I", false)
  | 3 => ("FileIndexer$Term", "unwanted", "Z", false)
  | _ => ("FileIndexer$Term", "compared", "J", false)
def kY5 : Nat → FieldType := fun k => match k with
  | 0 => .array .long
  | 1 => .int
  | 2 => .int
  | 3 => .boolean
  | _ => .long
def kT6 : u_T := fun k => match k with
  | 0 => ("FileIndexer$Tree", "states", "[I", true)
  | 1 => ("FileIndexer$Tree", "parents", "[I", true)
  | 2 => ("FileIndexer$Tree", "contents", "[[I", true)
  | _ => ("FileIndexer$Tree", "lengths", "[I", true)
def kY6 : Nat → FieldType := fun k => match k with
  | 0 => .array .int
  | 1 => .array .int
  | 2 => .array (.array .int)
  | _ => .array .int
def kT7 : u_T := fun k => match k with
  | 0 => ("FileIndexer", "tree", "LFileIndexer$Tree;", true)
  | 1 => ("FileIndexer", "queue", "LFileIndexer$Queue;", true)
  | 2 => ("FileIndexer", "index", "LFileIndexer$Index;", true)
  | 3 => ("FileIndexer", "query", "LFileIndexer$Query;", true)
  | 4 => ("FileIndexer", "ranking", "LFileIndexer$Ranking;", true)
  | _ => ("FileIndexer", "faultPlace", "I", false)
def kY7 : Nat → FieldType := fun k => match k with
  | 0 => .object "FileIndexer$Tree"
  | 1 => .object "FileIndexer$Queue"
  | 2 => .object "FileIndexer$Index"
  | 3 => .object "FileIndexer$Query"
  | 4 => .object "FileIndexer$Ranking"
  | _ => .int
def kT8 : u_T := fun k => match k with
  | 0 => ("FileIndexerModel", "thrown", "I", false)
  | 1 => ("FileIndexerModel", "there", "[Z", true)
  | 2 => ("FileIndexerModel", "folder", "[Z", true)
  | 3 => ("FileIndexerModel", "parent", "[I", true)
  | 4 => ("FileIndexerModel", "content", "[I", true)
  | 5 => ("FileIndexerModel", "length", "[I", true)
  | 6 => ("FileIndexerModel", "marked", "[Z", true)
  | 7 => ("FileIndexerModel", "eventKind", "[I", true)
  | 8 => ("FileIndexerModel", "eventFile", "[I", true)
  | 9 => ("FileIndexerModel", "events", "I", false)
  | 10 => ("FileIndexerModel", "lost", "Z", false)
  | 11 => ("FileIndexerModel", "reads", "I", false)
  | 12 => ("FileIndexerModel", "indexed", "[Z", true)
  | 13 => ("FileIndexerModel", "words", "[I", true)
  | 14 => ("FileIndexerModel", "word", "[J", true)
  | 15 => ("FileIndexerModel", "letters", "[I", true)
  | 16 => ("FileIndexerModel", "weight", "[I", true)
  | 17 => ("FileIndexerModel", "query", "[I", true)
  | 18 => ("FileIndexerModel", "asked", "I", false)
  | 19 => ("FileIndexerModel", "alternative", "[I", true)
  | 20 => ("FileIndexerModel", "without", "[Z", true)
  | 21 => ("FileIndexerModel", "sort", "[I", true)
  | 22 => ("FileIndexerModel", "first", "[I", true)
  | 23 => ("FileIndexerModel", "many", "[I", true)
  | 24 => ("FileIndexerModel", "terms", "I", false)
  | 25 => ("FileIndexerModel", "qWord", "[J", true)
  | 26 => ("FileIndexerModel", "qLetters", "[I", true)
  | 27 => ("FileIndexerModel", "qWords", "I", false)
  | 28 => ("FileIndexerModel", "at", "I", false)
  | 29 => ("FileIndexerModel", "wrong", "I", false)
  | 30 => ("FileIndexerModel", "fault", "I", false)
  | 31 => ("FileIndexerModel", "found", "[I", true)
  | 32 => ("FileIndexerModel", "scores", "[I", true)
  | _ => ("FileIndexerModel", "results", "I", false)
def kY8 : Nat → FieldType := fun k => match k with
  | 0 => .int
  | 1 => .array .boolean
  | 2 => .array .boolean
  | 3 => .array .int
  | 4 => .array .int
  | 5 => .array .int
  | 6 => .array .boolean
  | 7 => .array .int
  | 8 => .array .int
  | 9 => .int
  | 10 => .boolean
  | 11 => .int
  | 12 => .array .boolean
  | 13 => .array .int
  | 14 => .array .long
  | 15 => .array .int
  | 16 => .array .int
  | 17 => .array .int
  | 18 => .int
  | 19 => .array .int
  | 20 => .array .boolean
  | 21 => .array .int
  | 22 => .array .int
  | 23 => .array .int
  | 24 => .int
  | 25 => .array .long
  | 26 => .array .int
  | 27 => .int
  | 28 => .int
  | 29 => .int
  | 30 => .int
  | 31 => .array .int
  | 32 => .array .int
  | _ => .int
def kTe : u_T := fun _ => ("", "", "", false)
def kN : Nat → String := fun c => match c with
  | 0 => "FileIndexer$Entry"
  | 1 => "FileIndexer$Index"
  | 2 => "FileIndexer$Query"
  | 3 => "FileIndexer$Queue"
  | 4 => "FileIndexer$Ranking"
  | 5 => "FileIndexer$Term"
  | 6 => "FileIndexer$Tree"
  | 7 => "FileIndexer"
  | 8 => "FileIndexerModel"
  | 9 => "java/lang/IllegalArgumentException"
  | 10 => "java/lang/IllegalStateException"
  | _ => "java/util/NoSuchElementException"
def kT : Nat → u_T := fun c => match c with
  | 0 => kT0
  | 1 => kT1
  | 2 => kT2
  | 3 => kT3
  | 4 => kT4
  | 5 => kT5
  | 6 => kT6
  | 7 => kT7
  | 8 => kT8
  | _ => kTe
def kF : Nat → Nat := fun c => match c with
  | 0 => 3
  | 1 => 3
  | 2 => 7
  | 3 => 4
  | 4 => 3
  | 5 => 5
  | 6 => 4
  | 7 => 6
  | 8 => 34
  | _ => 0
def kY : Nat → Nat → FieldType := fun c => match c with
  | 0 => kY0
  | 1 => kY1
  | 2 => kY2
  | 3 => kY3
  | 4 => kY4
  | 5 => kY5
  | 6 => kY6
  | 7 => kY7
  | 8 => kY8
  | _ => fun _ => .int
abbrev vwCl : List vw_C := [(kN 0, kT 0, kF 0), (kN 1, kT 1, kF 1), (kN 2, kT 2, kF 2), (kN 3, kT 3, kF 3), (kN 4, kT 4, kF 4), (kN 5, kT 5, kF 5), (kN 6, kT 6, kF 6), (kN 7, kT 7, kF 7), (kN 8, kT 8, kF 8), (kN 9, kT 9, kF 9), (kN 10, kT 10, kF 10), (kN 11, kT 11, kF 11)]
theorem ly0_0 : u_lay (kN 0) (kT 0) 0 ∈ lw_tbl := lw_in (List.mem_of_getElem? (i := 82) (by decide +kernel))
theorem ly0_1 : u_lay (kN 0) (kT 0) 1 ∈ lw_tbl := lw_in (List.mem_of_getElem? (i := 84) (by decide +kernel))
theorem ly0_2 : u_lay (kN 0) (kT 0) 2 ∈ lw_tbl := lw_in (List.mem_of_getElem? (i := 86) (by decide +kernel))
theorem ly0 : ∀ k, k < kF 0 → u_lay (kN 0) (kT 0) k ∈ lw_tbl := fun k hk => match k, hk with
  | 0, _ => ly0_0
  | 1, _ => ly0_1
  | 2, _ => ly0_2
  | k + 3, h => absurd h (by simp [kF])
theorem ly1_0 : u_lay (kN 1) (kT 1) 0 ∈ lw_tbl := lw_in (List.mem_of_getElem? (i := 94) (by decide +kernel))
theorem ly1_1 : u_lay (kN 1) (kT 1) 1 ∈ lw_tbl := lw_in (List.mem_of_getElem? (i := 96) (by decide +kernel))
theorem ly1_2 : u_lay (kN 1) (kT 1) 2 ∈ lw_tbl := lw_in (List.mem_of_getElem? (i := 98) (by decide +kernel))
theorem ly1 : ∀ k, k < kF 1 → u_lay (kN 1) (kT 1) k ∈ lw_tbl := fun k hk => match k, hk with
  | 0, _ => ly1_0
  | 1, _ => ly1_1
  | 2, _ => ly1_2
  | k + 3, h => absurd h (by simp [kF])
theorem ly2_0 : u_lay (kN 2) (kT 2) 0 ∈ lw_tbl := lw_in (List.mem_of_getElem? (i := 137) (by decide +kernel))
theorem ly2_1 : u_lay (kN 2) (kT 2) 1 ∈ lw_tbl := lw_in (List.mem_of_getElem? (i := 139) (by decide +kernel))
theorem ly2_2 : u_lay (kN 2) (kT 2) 2 ∈ lw_tbl := lw_in (List.mem_of_getElem? (i := 141) (by decide +kernel))
theorem ly2_3 : u_lay (kN 2) (kT 2) 3 ∈ lw_tbl := lw_in (List.mem_of_getElem? (i := 143) (by decide +kernel))
theorem ly2_4 : u_lay (kN 2) (kT 2) 4 ∈ lw_tbl := lw_in (List.mem_of_getElem? (i := 145) (by decide +kernel))
theorem ly2_5 : u_lay (kN 2) (kT 2) 5 ∈ lw_tbl := lw_in (List.mem_of_getElem? (i := 147) (by decide +kernel))
theorem ly2_6 : u_lay (kN 2) (kT 2) 6 ∈ lw_tbl := lw_in (List.mem_of_getElem? (i := 149) (by decide +kernel))
theorem ly2 : ∀ k, k < kF 2 → u_lay (kN 2) (kT 2) k ∈ lw_tbl := fun k hk => match k, hk with
  | 0, _ => ly2_0
  | 1, _ => ly2_1
  | 2, _ => ly2_2
  | 3, _ => ly2_3
  | 4, _ => ly2_4
  | 5, _ => ly2_5
  | 6, _ => ly2_6
  | k + 7, h => absurd h (by simp [kF])
theorem ly3_0 : u_lay (kN 3) (kT 3) 0 ∈ lw_tbl := lw_in (List.mem_of_getElem? (i := 57) (by decide +kernel))
theorem ly3_1 : u_lay (kN 3) (kT 3) 1 ∈ lw_tbl := lw_in (List.mem_of_getElem? (i := 59) (by decide +kernel))
theorem ly3_2 : u_lay (kN 3) (kT 3) 2 ∈ lw_tbl := lw_in (List.mem_of_getElem? (i := 61) (by decide +kernel))
theorem ly3_3 : u_lay (kN 3) (kT 3) 3 ∈ lw_tbl := lw_in (List.mem_of_getElem? (i := 63) (by decide +kernel))
theorem ly3 : ∀ k, k < kF 3 → u_lay (kN 3) (kT 3) k ∈ lw_tbl := fun k hk => match k, hk with
  | 0, _ => ly3_0
  | 1, _ => ly3_1
  | 2, _ => ly3_2
  | 3, _ => ly3_3
  | k + 4, h => absurd h (by simp [kF])
theorem ly4_0 : u_lay (kN 4) (kT 4) 0 ∈ lw_tbl := lw_in (List.mem_of_getElem? (i := 161) (by decide +kernel))
theorem ly4_1 : u_lay (kN 4) (kT 4) 1 ∈ lw_tbl := lw_in (List.mem_of_getElem? (i := 163) (by decide +kernel))
theorem ly4_2 : u_lay (kN 4) (kT 4) 2 ∈ lw_tbl := lw_in (List.mem_of_getElem? (i := 165) (by decide +kernel))
theorem ly4 : ∀ k, k < kF 4 → u_lay (kN 4) (kT 4) k ∈ lw_tbl := fun k hk => match k, hk with
  | 0, _ => ly4_0
  | 1, _ => ly4_1
  | 2, _ => ly4_2
  | k + 3, h => absurd h (by simp [kF])
theorem ly5_0 : u_lay (kN 5) (kT 5) 0 ∈ lw_tbl := lw_in (List.mem_of_getElem? (i := 119) (by decide +kernel))
theorem ly5_1 : u_lay (kN 5) (kT 5) 1 ∈ lw_tbl := lw_in (List.mem_of_getElem? (i := 121) (by decide +kernel))
theorem ly5_2 : u_lay (kN 5) (kT 5) 2 ∈ lw_tbl := lw_in (List.mem_of_getElem? (i := 123) (by decide +kernel))
theorem ly5_3 : u_lay (kN 5) (kT 5) 3 ∈ lw_tbl := lw_in (List.mem_of_getElem? (i := 125) (by decide +kernel))
theorem ly5_4 : u_lay (kN 5) (kT 5) 4 ∈ lw_tbl := lw_in (List.mem_of_getElem? (i := 127) (by decide +kernel))
theorem ly5 : ∀ k, k < kF 5 → u_lay (kN 5) (kT 5) k ∈ lw_tbl := fun k hk => match k, hk with
  | 0, _ => ly5_0
  | 1, _ => ly5_1
  | 2, _ => ly5_2
  | 3, _ => ly5_3
  | 4, _ => ly5_4
  | k + 5, h => absurd h (by simp [kF])
theorem ly6_0 : u_lay (kN 6) (kT 6) 0 ∈ lw_tbl := lw_in (List.mem_of_getElem? (i := 37) (by decide +kernel))
theorem ly6_1 : u_lay (kN 6) (kT 6) 1 ∈ lw_tbl := lw_in (List.mem_of_getElem? (i := 39) (by decide +kernel))
theorem ly6_2 : u_lay (kN 6) (kT 6) 2 ∈ lw_tbl := lw_in (List.mem_of_getElem? (i := 41) (by decide +kernel))
theorem ly6_3 : u_lay (kN 6) (kT 6) 3 ∈ lw_tbl := lw_in (List.mem_of_getElem? (i := 43) (by decide +kernel))
theorem ly6 : ∀ k, k < kF 6 → u_lay (kN 6) (kT 6) k ∈ lw_tbl := fun k hk => match k, hk with
  | 0, _ => ly6_0
  | 1, _ => ly6_1
  | 2, _ => ly6_2
  | 3, _ => ly6_3
  | k + 4, h => absurd h (by simp [kF])
theorem ly7_0 : u_lay (kN 7) (kT 7) 0 ∈ lw_tbl := lw_in (List.mem_of_getElem? (i := 174) (by decide +kernel))
theorem ly7_1 : u_lay (kN 7) (kT 7) 1 ∈ lw_tbl := lw_in (List.mem_of_getElem? (i := 176) (by decide +kernel))
theorem ly7_2 : u_lay (kN 7) (kT 7) 2 ∈ lw_tbl := lw_in (List.mem_of_getElem? (i := 178) (by decide +kernel))
theorem ly7_3 : u_lay (kN 7) (kT 7) 3 ∈ lw_tbl := lw_in (List.mem_of_getElem? (i := 180) (by decide +kernel))
theorem ly7_4 : u_lay (kN 7) (kT 7) 4 ∈ lw_tbl := lw_in (List.mem_of_getElem? (i := 182) (by decide +kernel))
theorem ly7_5 : u_lay (kN 7) (kT 7) 5 ∈ lw_tbl := lw_in (List.mem_of_getElem? (i := 184) (by decide +kernel))
theorem ly7 : ∀ k, k < kF 7 → u_lay (kN 7) (kT 7) k ∈ lw_tbl := fun k hk => match k, hk with
  | 0, _ => ly7_0
  | 1, _ => ly7_1
  | 2, _ => ly7_2
  | 3, _ => ly7_3
  | 4, _ => ly7_4
  | 5, _ => ly7_5
  | k + 6, h => absurd h (by simp [kF])
theorem ly8_0 : u_lay (kN 8) (kT 8) 0 ∈ lw_tbl := lw_in (List.mem_of_getElem? (i := 730) (by decide +kernel))
theorem ly8_1 : u_lay (kN 8) (kT 8) 1 ∈ lw_tbl := lw_in (List.mem_of_getElem? (i := 732) (by decide +kernel))
theorem ly8_2 : u_lay (kN 8) (kT 8) 2 ∈ lw_tbl := lw_in (List.mem_of_getElem? (i := 734) (by decide +kernel))
theorem ly8_3 : u_lay (kN 8) (kT 8) 3 ∈ lw_tbl := lw_in (List.mem_of_getElem? (i := 736) (by decide +kernel))
theorem ly8_4 : u_lay (kN 8) (kT 8) 4 ∈ lw_tbl := lw_in (List.mem_of_getElem? (i := 738) (by decide +kernel))
theorem ly8_5 : u_lay (kN 8) (kT 8) 5 ∈ lw_tbl := lw_in (List.mem_of_getElem? (i := 740) (by decide +kernel))
theorem ly8_6 : u_lay (kN 8) (kT 8) 6 ∈ lw_tbl := lw_in (List.mem_of_getElem? (i := 742) (by decide +kernel))
theorem ly8_7 : u_lay (kN 8) (kT 8) 7 ∈ lw_tbl := lw_in (List.mem_of_getElem? (i := 744) (by decide +kernel))
theorem ly8_8 : u_lay (kN 8) (kT 8) 8 ∈ lw_tbl := lw_in (List.mem_of_getElem? (i := 746) (by decide +kernel))
theorem ly8_9 : u_lay (kN 8) (kT 8) 9 ∈ lw_tbl := lw_in (List.mem_of_getElem? (i := 748) (by decide +kernel))
theorem ly8_10 : u_lay (kN 8) (kT 8) 10 ∈ lw_tbl := lw_in (List.mem_of_getElem? (i := 750) (by decide +kernel))
theorem ly8_11 : u_lay (kN 8) (kT 8) 11 ∈ lw_tbl := lw_in (List.mem_of_getElem? (i := 752) (by decide +kernel))
theorem ly8_12 : u_lay (kN 8) (kT 8) 12 ∈ lw_tbl := lw_in (List.mem_of_getElem? (i := 754) (by decide +kernel))
theorem ly8_13 : u_lay (kN 8) (kT 8) 13 ∈ lw_tbl := lw_in (List.mem_of_getElem? (i := 756) (by decide +kernel))
theorem ly8_14 : u_lay (kN 8) (kT 8) 14 ∈ lw_tbl := lw_in (List.mem_of_getElem? (i := 758) (by decide +kernel))
theorem ly8_15 : u_lay (kN 8) (kT 8) 15 ∈ lw_tbl := lw_in (List.mem_of_getElem? (i := 760) (by decide +kernel))
theorem ly8_16 : u_lay (kN 8) (kT 8) 16 ∈ lw_tbl := lw_in (List.mem_of_getElem? (i := 762) (by decide +kernel))
theorem ly8_17 : u_lay (kN 8) (kT 8) 17 ∈ lw_tbl := lw_in (List.mem_of_getElem? (i := 764) (by decide +kernel))
theorem ly8_18 : u_lay (kN 8) (kT 8) 18 ∈ lw_tbl := lw_in (List.mem_of_getElem? (i := 766) (by decide +kernel))
theorem ly8_19 : u_lay (kN 8) (kT 8) 19 ∈ lw_tbl := lw_in (List.mem_of_getElem? (i := 768) (by decide +kernel))
theorem ly8_20 : u_lay (kN 8) (kT 8) 20 ∈ lw_tbl := lw_in (List.mem_of_getElem? (i := 770) (by decide +kernel))
theorem ly8_21 : u_lay (kN 8) (kT 8) 21 ∈ lw_tbl := lw_in (List.mem_of_getElem? (i := 772) (by decide +kernel))
theorem ly8_22 : u_lay (kN 8) (kT 8) 22 ∈ lw_tbl := lw_in (List.mem_of_getElem? (i := 774) (by decide +kernel))
theorem ly8_23 : u_lay (kN 8) (kT 8) 23 ∈ lw_tbl := lw_in (List.mem_of_getElem? (i := 776) (by decide +kernel))
theorem ly8_24 : u_lay (kN 8) (kT 8) 24 ∈ lw_tbl := lw_in (List.mem_of_getElem? (i := 778) (by decide +kernel))
theorem ly8_25 : u_lay (kN 8) (kT 8) 25 ∈ lw_tbl := lw_in (List.mem_of_getElem? (i := 780) (by decide +kernel))
theorem ly8_26 : u_lay (kN 8) (kT 8) 26 ∈ lw_tbl := lw_in (List.mem_of_getElem? (i := 782) (by decide +kernel))
theorem ly8_27 : u_lay (kN 8) (kT 8) 27 ∈ lw_tbl := lw_in (List.mem_of_getElem? (i := 784) (by decide +kernel))
theorem ly8_28 : u_lay (kN 8) (kT 8) 28 ∈ lw_tbl := lw_in (List.mem_of_getElem? (i := 786) (by decide +kernel))
theorem ly8_29 : u_lay (kN 8) (kT 8) 29 ∈ lw_tbl := lw_in (List.mem_of_getElem? (i := 788) (by decide +kernel))
theorem ly8_30 : u_lay (kN 8) (kT 8) 30 ∈ lw_tbl := lw_in (List.mem_of_getElem? (i := 790) (by decide +kernel))
theorem ly8_31 : u_lay (kN 8) (kT 8) 31 ∈ lw_tbl := lw_in (List.mem_of_getElem? (i := 792) (by decide +kernel))
theorem ly8_32 : u_lay (kN 8) (kT 8) 32 ∈ lw_tbl := lw_in (List.mem_of_getElem? (i := 794) (by decide +kernel))
theorem ly8_33 : u_lay (kN 8) (kT 8) 33 ∈ lw_tbl := lw_in (List.mem_of_getElem? (i := 796) (by decide +kernel))
theorem ly8 : ∀ k, k < kF 8 → u_lay (kN 8) (kT 8) k ∈ lw_tbl := fun k hk => match k, hk with
  | 0, _ => ly8_0
  | 1, _ => ly8_1
  | 2, _ => ly8_2
  | 3, _ => ly8_3
  | 4, _ => ly8_4
  | 5, _ => ly8_5
  | 6, _ => ly8_6
  | 7, _ => ly8_7
  | 8, _ => ly8_8
  | 9, _ => ly8_9
  | 10, _ => ly8_10
  | 11, _ => ly8_11
  | 12, _ => ly8_12
  | 13, _ => ly8_13
  | 14, _ => ly8_14
  | 15, _ => ly8_15
  | 16, _ => ly8_16
  | 17, _ => ly8_17
  | 18, _ => ly8_18
  | 19, _ => ly8_19
  | 20, _ => ly8_20
  | 21, _ => ly8_21
  | 22, _ => ly8_22
  | 23, _ => ly8_23
  | 24, _ => ly8_24
  | 25, _ => ly8_25
  | 26, _ => ly8_26
  | 27, _ => ly8_27
  | 28, _ => ly8_28
  | 29, _ => ly8_29
  | 30, _ => ly8_30
  | 31, _ => ly8_31
  | 32, _ => ly8_32
  | 33, _ => ly8_33
  | k + 34, h => absurd h (by simp [kF])
theorem ly_all (c : Nat) : ∀ w ∈ u_ws (kN c) (kT c) (kF c), w ∈ lw_tbl := by
  intro w hw
  obtain ⟨k, hk, rfl⟩ := List.mem_map.mp hw
  have hk := List.mem_range.mp hk
  match c, hk with
  | 0, hk => exact ly0 k hk
  | 1, hk => exact ly1 k hk
  | 2, hk => exact ly2 k hk
  | 3, hk => exact ly3 k hk
  | 4, hk => exact ly4 k hk
  | 5, hk => exact ly5 k hk
  | 6, hk => exact ly6 k hk
  | 7, hk => exact ly7 k hk
  | 8, hk => exact ly8 k hk
  | c + 9, hk => exact absurd hk (Nat.not_lt_zero k)
theorem ky0 : ∀ k, k < kF 0 → parseFieldDescriptor (kT 0 k).2.2.1 = some (kY 0 k) := by decide +kernel
theorem kn0 : ∀ a, a < kF 0 → ∀ b, b < kF 0 → a ≠ b → (kT 0 a).2.1 ≠ (kT 0 b).2.1 := by decide +kernel
theorem ky1 : ∀ k, k < kF 1 → parseFieldDescriptor (kT 1 k).2.2.1 = some (kY 1 k) := by decide +kernel
theorem kn1 : ∀ a, a < kF 1 → ∀ b, b < kF 1 → a ≠ b → (kT 1 a).2.1 ≠ (kT 1 b).2.1 := by decide +kernel
theorem ky2 : ∀ k, k < kF 2 → parseFieldDescriptor (kT 2 k).2.2.1 = some (kY 2 k) := by decide +kernel
theorem kn2 : ∀ a, a < kF 2 → ∀ b, b < kF 2 → a ≠ b → (kT 2 a).2.1 ≠ (kT 2 b).2.1 := by decide +kernel
theorem ky3 : ∀ k, k < kF 3 → parseFieldDescriptor (kT 3 k).2.2.1 = some (kY 3 k) := by decide +kernel
theorem kn3 : ∀ a, a < kF 3 → ∀ b, b < kF 3 → a ≠ b → (kT 3 a).2.1 ≠ (kT 3 b).2.1 := by decide +kernel
theorem ky4 : ∀ k, k < kF 4 → parseFieldDescriptor (kT 4 k).2.2.1 = some (kY 4 k) := by decide +kernel
theorem kn4 : ∀ a, a < kF 4 → ∀ b, b < kF 4 → a ≠ b → (kT 4 a).2.1 ≠ (kT 4 b).2.1 := by decide +kernel
theorem ky5 : ∀ k, k < kF 5 → parseFieldDescriptor (kT 5 k).2.2.1 = some (kY 5 k) := by decide +kernel
theorem kn5 : ∀ a, a < kF 5 → ∀ b, b < kF 5 → a ≠ b → (kT 5 a).2.1 ≠ (kT 5 b).2.1 := by decide +kernel
theorem ky6 : ∀ k, k < kF 6 → parseFieldDescriptor (kT 6 k).2.2.1 = some (kY 6 k) := by decide +kernel
theorem kn6 : ∀ a, a < kF 6 → ∀ b, b < kF 6 → a ≠ b → (kT 6 a).2.1 ≠ (kT 6 b).2.1 := by decide +kernel
theorem ky7 : ∀ k, k < kF 7 → parseFieldDescriptor (kT 7 k).2.2.1 = some (kY 7 k) := by decide +kernel
theorem kn7 : ∀ a, a < kF 7 → ∀ b, b < kF 7 → a ≠ b → (kT 7 a).2.1 ≠ (kT 7 b).2.1 := by decide +kernel
theorem ky8 : ∀ k, k < kF 8 → parseFieldDescriptor (kT 8 k).2.2.1 = some (kY 8 k) := by decide +kernel
theorem kn8 : ∀ a, a < kF 8 → ∀ b, b < kF 8 → a ≠ b → (kT 8 a).2.1 ≠ (kT 8 b).2.1 := by decide +kernel
theorem ky_all (c : Nat) : ∀ k, k < kF c → parseFieldDescriptor (kT c k).2.2.1 = some (kY c k) := by
  match c with
  | 0 => exact ky0
  | 1 => exact ky1
  | 2 => exact ky2
  | 3 => exact ky3
  | 4 => exact ky4
  | 5 => exact ky5
  | 6 => exact ky6
  | 7 => exact ky7
  | 8 => exact ky8
  | c + 9 => exact fun k hk => absurd hk (Nat.not_lt_zero k)
theorem kn_all (c : Nat) : ∀ a, a < kF c → ∀ b, b < kF c → a ≠ b → (kT c a).2.1 ≠ (kT c b).2.1 := by
  match c with
  | 0 => exact kn0
  | 1 => exact kn1
  | 2 => exact kn2
  | 3 => exact kn3
  | 4 => exact kn4
  | 5 => exact kn5
  | 6 => exact kn6
  | 7 => exact kn7
  | 8 => exact kn8
  | c + 9 => exact fun k hk => absurd hk (Nat.not_lt_zero k)
theorem vw_at {c : Nat} (h : c < 12) : vwCl[c]? = some (kN c, kT c, kF c) := by
  match c, h with
  | 0, _ => rfl
  | 1, _ => rfl
  | 2, _ => rfl
  | 3, _ => rfl
  | 4, _ => rfl
  | 5, _ => rfl
  | 6, _ => rfl
  | 7, _ => rfl
  | 8, _ => rfl
  | 9, _ => rfl
  | 10, _ => rfl
  | 11, _ => rfl
  | c + 12, h => exact absurd h (by omega)
abbrev KT : Type := ByteArray × String × String × List (Nat × Nat × Nat × Nat) × Nat × Option FieldType
def k_Fi_init : KT := (prog_1_method_1_code, "FileIndexer", "<init>", [], 1, none)
def y_Fi_init : MethodName := ⟨"FileIndexer", "<init>", "()V"⟩
def k_Tr_init : KT := (prog_8_method_1_code, "FileIndexer$Tree", "<init>", [], 1, none)
def y_Tr_init : MethodName := ⟨"FileIndexer$Tree", "<init>", "()V"⟩
def k_Qu_init : KT := (prog_5_method_1_code, "FileIndexer$Queue", "<init>", [], 1, none)
def y_Qu_init : MethodName := ⟨"FileIndexer$Queue", "<init>", "()V"⟩
def k_Ix_init : KT := (prog_3_method_1_code, "FileIndexer$Index", "<init>", [], 2, none)
def y_Ix_init : MethodName := ⟨"FileIndexer$Index", "<init>", "()V"⟩
def k_En_init : KT := (prog_2_method_1_code, "FileIndexer$Entry", "<init>", [], 1, none)
def y_En_init : MethodName := ⟨"FileIndexer$Entry", "<init>", "()V"⟩
def k_Qy_init : KT := (prog_4_method_1_code, "FileIndexer$Query", "<init>", [], 2, none)
def y_Qy_init : MethodName := ⟨"FileIndexer$Query", "<init>", "()V"⟩
def k_Tm_init : KT := (prog_7_method_1_code, "FileIndexer$Term", "<init>", [], 1, none)
def y_Tm_init : MethodName := ⟨"FileIndexer$Term", "<init>", "()V"⟩
def k_Rk_init : KT := (prog_6_method_1_code, "FileIndexer$Ranking", "<init>", [], 1, none)
def y_Rk_init : MethodName := ⟨"FileIndexer$Ranking", "<init>", "()V"⟩
def k_Fi_rescan : KT := (prog_1_method_8_code, "FileIndexer", "rescan", [], 3, some .int)
def y_Fi_rescan : MethodName := ⟨"FileIndexer", "rescan", "()I"⟩
def k_Tr_isFile : KT := (prog_8_method_4_code, "FileIndexer$Tree", "isFile", [], 2, some .boolean)
def y_Tr_isFile : MethodName := ⟨"FileIndexer$Tree", "isFile", "(I)Z"⟩
def k_Fi_isNode : KT := (prog_1_method_21_code, "FileIndexer", "isNode", [], 1, some .boolean)
def y_Fi_isNode : MethodName := ⟨"FileIndexer", "isNode", "(I)Z"⟩
def k_Fi_readFile : KT := (prog_1_method_18_code, "FileIndexer", "readFile", [], 2, none)
def y_Fi_readFile : MethodName := ⟨"FileIndexer", "readFile", "(I)V"⟩
def k_Tr_contentOf : KT := (prog_8_method_10_code, "FileIndexer$Tree", "contentOf", [], 2, some (.array .int))
def y_Tr_contentOf : MethodName := ⟨"FileIndexer$Tree", "contentOf", "(I)[I"⟩
def k_Tr_lengthOf : KT := (prog_8_method_11_code, "FileIndexer$Tree", "lengthOf", [], 2, some .int)
def y_Tr_lengthOf : MethodName := ⟨"FileIndexer$Tree", "lengthOf", "(I)I"⟩
def k_Ix_read : KT := (prog_3_method_4_code, "FileIndexer$Index", "read", [], 4, none)
def y_Ix_read : MethodName := ⟨"FileIndexer$Index", "read", "(I[II)V"⟩
def k_En_take : KT := (prog_2_method_5_code, "FileIndexer$Entry", "take", [], 9, none)
def y_En_take : MethodName := ⟨"FileIndexer$Entry", "take", "([II)V"⟩
def k_En_titleEndOf : KT := (prog_2_method_7_code, "FileIndexer$Entry", "titleEndOf", [], 3, some .int)
def y_En_titleEndOf : MethodName := ⟨"FileIndexer$Entry", "titleEndOf", "([II)I"⟩
def k_Fi_isLetter : KT := (prog_1_method_26_code, "FileIndexer", "isLetter", [], 1, some .boolean)
def y_Fi_isLetter : MethodName := ⟨"FileIndexer", "isLetter", "(I)Z"⟩
def k_Fi_withLetter : KT := (prog_1_method_27_code, "FileIndexer", "withLetter", [], 6, some .long)
def y_Fi_withLetter : MethodName := ⟨"FileIndexer", "withLetter", "(JII)J"⟩
def k_En_add : KT := (prog_2_method_6_code, "FileIndexer$Entry", "add", [], 4, none)
def y_En_add : MethodName := ⟨"FileIndexer$Entry", "add", "(JI)V"⟩
def k_Ix_forget : KT := (prog_3_method_5_code, "FileIndexer$Index", "forget", [], 2, none)
def y_Ix_forget : MethodName := ⟨"FileIndexer$Index", "forget", "(I)V"⟩
def k_Qu_startAnew : KT := (prog_5_method_6_code, "FileIndexer$Queue", "startAnew", [], 1, none)
def y_Qu_startAnew : MethodName := ⟨"FileIndexer$Queue", "startAnew", "()V"⟩
def k_Fi_fault : KT := (prog_1_method_11_code, "FileIndexer", "fault", [], 1, some .int)
def y_Fi_fault : MethodName := ⟨"FileIndexer", "fault", "()I"⟩
def k_Fi_make : KT := (prog_1_method_2_code, "FileIndexer", "make", [], 4, some .int)
def y_Fi_make : MethodName := ⟨"FileIndexer", "make", "(IIZ)I"⟩
def k_Fi_isNodeBelowRoot : KT := (prog_1_method_22_code, "FileIndexer", "isNodeBelowRoot", [], 1, some .boolean)
def y_Fi_isNodeBelowRoot : MethodName := ⟨"FileIndexer", "isNodeBelowRoot", "(I)Z"⟩
def k_Tr_isThere : KT := (prog_8_method_2_code, "FileIndexer$Tree", "isThere", [], 2, some .boolean)
def y_Tr_isThere : MethodName := ⟨"FileIndexer$Tree", "isThere", "(I)Z"⟩
def k_Tr_isFolder : KT := (prog_8_method_3_code, "FileIndexer$Tree", "isFolder", [], 2, some .boolean)
def y_Tr_isFolder : MethodName := ⟨"FileIndexer$Tree", "isFolder", "(I)Z"⟩
def k_Tr_put : KT := (prog_8_method_7_code, "FileIndexer$Tree", "put", [], 4, none)
def y_Tr_put : MethodName := ⟨"FileIndexer$Tree", "put", "(IIZ)V"⟩
def k_Qu_tell : KT := (prog_5_method_7_code, "FileIndexer$Queue", "tell", [], 4, none)
def y_Qu_tell : MethodName := ⟨"FileIndexer$Queue", "tell", "(II)V"⟩
def k_Qu_placeOf : KT := (prog_5_method_9_code, "FileIndexer$Queue", "placeOf", [], 3, some .int)
def y_Qu_placeOf : MethodName := ⟨"FileIndexer$Queue", "placeOf", "(I)I"⟩
def k_Qu_putTogether : KT := (prog_5_method_10_code, "FileIndexer$Queue", "putTogether", [], 4, none)
def y_Qu_putTogether : MethodName := ⟨"FileIndexer$Queue", "putTogether", "(II)V"⟩
def k_Qu_drop : KT := (prog_5_method_8_code, "FileIndexer$Queue", "drop", [], 3, none)
def y_Qu_drop : MethodName := ⟨"FileIndexer$Queue", "drop", "(I)V"⟩
def k_Fi_write : KT := (prog_1_method_3_code, "FileIndexer", "write", [], 6, some .int)
def y_Fi_write : MethodName := ⟨"FileIndexer", "write", "(IJI)I"⟩
def k_Fi_areCodes : KT := (prog_1_method_25_code, "FileIndexer", "areCodes", [], 4, some .boolean)
def y_Fi_areCodes : MethodName := ⟨"FileIndexer", "areCodes", "(JI)Z"⟩
def k_Fi_byteOf : KT := (prog_1_method_24_code, "FileIndexer", "byteOf", [], 3, some .int)
def y_Fi_byteOf : MethodName := ⟨"FileIndexer", "byteOf", "(JI)I"⟩
def k_Fi_isCode : KT := (prog_1_method_23_code, "FileIndexer", "isCode", [], 1, some .boolean)
def y_Fi_isCode : MethodName := ⟨"FileIndexer", "isCode", "(I)Z"⟩
def k_Tr_append : KT := (prog_8_method_12_code, "FileIndexer$Tree", "append", [], 3, none)
def y_Tr_append : MethodName := ⟨"FileIndexer$Tree", "append", "(II)V"⟩
def k_Fi_cut : KT := (prog_1_method_4_code, "FileIndexer", "cut", [], 4, some .int)
def y_Fi_cut : MethodName := ⟨"FileIndexer", "cut", "(II)I"⟩
def k_Tr_shorten : KT := (prog_8_method_13_code, "FileIndexer$Tree", "shorten", [], 3, none)
def y_Tr_shorten : MethodName := ⟨"FileIndexer$Tree", "shorten", "(II)V"⟩
def k_Fi_remove : KT := (prog_1_method_5_code, "FileIndexer", "remove", [], 4, some .int)
def y_Fi_remove : MethodName := ⟨"FileIndexer", "remove", "(I)I"⟩
def k_Tr_isWithin : KT := (prog_8_method_6_code, "FileIndexer$Tree", "isWithin", [], 5, some .boolean)
def y_Tr_isWithin : MethodName := ⟨"FileIndexer$Tree", "isWithin", "(II)Z"⟩
def k_Fi_removeOne : KT := (prog_1_method_16_code, "FileIndexer", "removeOne", [], 3, none)
def y_Fi_removeOne : MethodName := ⟨"FileIndexer", "removeOne", "(I)V"⟩
def k_Tr_drop : KT := (prog_8_method_9_code, "FileIndexer$Tree", "drop", [], 2, none)
def y_Tr_drop : MethodName := ⟨"FileIndexer$Tree", "drop", "(I)V"⟩
def k_Fi_move : KT := (prog_1_method_6_code, "FileIndexer", "move", [], 3, some .int)
def y_Fi_move : MethodName := ⟨"FileIndexer", "move", "(II)I"⟩
def k_Tr_parentOf : KT := (prog_8_method_5_code, "FileIndexer$Tree", "parentOf", [], 2, some .int)
def y_Tr_parentOf : MethodName := ⟨"FileIndexer$Tree", "parentOf", "(I)I"⟩
def k_Tr_hang : KT := (prog_8_method_8_code, "FileIndexer$Tree", "hang", [], 3, none)
def y_Tr_hang : MethodName := ⟨"FileIndexer$Tree", "hang", "(II)V"⟩
def k_Fi_work : KT := (prog_1_method_7_code, "FileIndexer", "work", [], 4, some .int)
def y_Fi_work : MethodName := ⟨"FileIndexer", "work", "(I)I"⟩
def k_Qu_isLost : KT := (prog_5_method_3_code, "FileIndexer$Queue", "isLost", [], 1, some .boolean)
def y_Qu_isLost : MethodName := ⟨"FileIndexer$Queue", "isLost", "()Z"⟩
def k_Qu_size : KT := (prog_5_method_2_code, "FileIndexer$Queue", "size", [], 1, some .int)
def y_Qu_size : MethodName := ⟨"FileIndexer$Queue", "size", "()I"⟩
def k_Mt_min : KT := (prog_14_method_69_code, "java/lang/Math", "min", [], 2, some .int)
def y_Mt_min : MethodName := ⟨"java/lang/Math", "min", "(II)I"⟩
def k_Qu_kindAt : KT := (prog_5_method_4_code, "FileIndexer$Queue", "kindAt", [], 2, some .int)
def y_Qu_kindAt : MethodName := ⟨"FileIndexer$Queue", "kindAt", "(I)I"⟩
def k_Qu_fileAt : KT := (prog_5_method_5_code, "FileIndexer$Queue", "fileAt", [], 2, some .int)
def y_Qu_fileAt : MethodName := ⟨"FileIndexer$Queue", "fileAt", "(I)I"⟩
def k_Fi_follow : KT := (prog_1_method_17_code, "FileIndexer", "follow", [], 3, none)
def y_Fi_follow : MethodName := ⟨"FileIndexer", "follow", "(II)V"⟩
def k_Fi_type : KT := (prog_1_method_9_code, "FileIndexer", "type", [], 2, some .int)
def y_Fi_type : MethodName := ⟨"FileIndexer", "type", "(I)I"⟩
def k_Qy_length : KT := (prog_4_method_2_code, "FileIndexer$Query", "length", [], 1, some .int)
def y_Qy_length : MethodName := ⟨"FileIndexer$Query", "length", "()I"⟩
def k_Qy_append : KT := (prog_4_method_3_code, "FileIndexer$Query", "append", [], 2, none)
def y_Qy_append : MethodName := ⟨"FileIndexer$Query", "append", "(I)V"⟩
def k_Fi_search : KT := (prog_1_method_10_code, "FileIndexer", "search", [], 3, some .int)
def y_Fi_search : MethodName := ⟨"FileIndexer", "search", "(I)I"⟩
def k_Rk_clear : KT := (prog_6_method_5_code, "FileIndexer$Ranking", "clear", [], 1, none)
def y_Rk_clear : MethodName := ⟨"FileIndexer$Ranking", "clear", "()V"⟩
def k_Qy_parse : KT := (prog_4_method_5_code, "FileIndexer$Query", "parse", [], 2, some .int)
def y_Qy_parse : MethodName := ⟨"FileIndexer$Query", "parse", "()I"⟩
def k_Qy_parseAlternative : KT := (prog_4_method_12_code, "FileIndexer$Query", "parseAlternative", [], 2, none)
def y_Qy_parseAlternative : MethodName := ⟨"FileIndexer$Query", "parseAlternative", "()V"⟩
def k_Qy_skipBlanks : KT := (prog_4_method_11_code, "FileIndexer$Query", "skipBlanks", [], 1, none)
def y_Qy_skipBlanks : MethodName := ⟨"FileIndexer$Query", "skipBlanks", "()V"⟩
def k_Qy_parseTerm : KT := (prog_4_method_13_code, "FileIndexer$Query", "parseTerm", [], 2, none)
def y_Qy_parseTerm : MethodName := ⟨"FileIndexer$Query", "parseTerm", "()V"⟩
def k_Tm_begin : KT := (prog_7_method_2_code, "FileIndexer$Term", "begin", [], 2, none)
def y_Tm_begin : MethodName := ⟨"FileIndexer$Term", "begin", "(I)V"⟩
def k_Qy_next : KT := (prog_4_method_9_code, "FileIndexer$Query", "next", [], 1, some .int)
def y_Qy_next : MethodName := ⟨"FileIndexer$Query", "next", "()I"⟩
def k_Tm_forbid : KT := (prog_7_method_5_code, "FileIndexer$Term", "forbid", [], 1, none)
def y_Tm_forbid : MethodName := ⟨"FileIndexer$Term", "forbid", "()V"⟩
def k_Qy_parsePhrase : KT := (prog_4_method_16_code, "FileIndexer$Query", "parsePhrase", [], 3, none)
def y_Qy_parsePhrase : MethodName := ⟨"FileIndexer$Query", "parsePhrase", "(LFileIndexer$Term;)V"⟩
def k_Qy_isFaulty : KT := (prog_4_method_8_code, "FileIndexer$Query", "isFaulty", [], 1, some .boolean)
def y_Qy_isFaulty : MethodName := ⟨"FileIndexer$Query", "isFaulty", "()Z"⟩
def k_Qy_parseWord : KT := (prog_4_method_17_code, "FileIndexer$Query", "parseWord", [], 5, none)
def y_Qy_parseWord : MethodName := ⟨"FileIndexer$Query", "parseWord", "(LFileIndexer$Term;)V"⟩
def k_Tm_add : KT := (prog_7_method_7_code, "FileIndexer$Term", "add", [], 3, none)
def y_Tm_add : MethodName := ⟨"FileIndexer$Term", "add", "(J)V"⟩
def k_Tm_isEmpty : KT := (prog_7_method_6_code, "FileIndexer$Term", "isEmpty", [], 1, some .boolean)
def y_Tm_isEmpty : MethodName := ⟨"FileIndexer$Term", "isEmpty", "()Z"⟩
def k_Qy_parseWordOrBeginning : KT := (prog_4_method_15_code, "FileIndexer$Query", "parseWordOrBeginning", [], 3, none)
def y_Qy_parseWordOrBeginning : MethodName := ⟨"FileIndexer$Query", "parseWordOrBeginning", "(LFileIndexer$Term;)V"⟩
def k_Tm_compareOnly : KT := (prog_7_method_8_code, "FileIndexer$Term", "compareOnly", [], 2, none)
def y_Tm_compareOnly : MethodName := ⟨"FileIndexer$Term", "compareOnly", "(I)V"⟩
def k_Qy_endTerm : KT := (prog_4_method_14_code, "FileIndexer$Query", "endTerm", [], 1, none)
def y_Qy_endTerm : MethodName := ⟨"FileIndexer$Query", "endTerm", "()V"⟩
def k_Qy_atAlternativeEnd : KT := (prog_4_method_10_code, "FileIndexer$Query", "atAlternativeEnd", [], 1, some .boolean)
def y_Qy_atAlternativeEnd : MethodName := ⟨"FileIndexer$Query", "atAlternativeEnd", "()Z"⟩
def k_Qy_clearText : KT := (prog_4_method_4_code, "FileIndexer$Query", "clearText", [], 1, none)
def y_Qy_clearText : MethodName := ⟨"FileIndexer$Query", "clearText", "()V"⟩
def k_Ix_has : KT := (prog_3_method_2_code, "FileIndexer$Index", "has", [], 2, some .boolean)
def y_Ix_has : MethodName := ⟨"FileIndexer$Index", "has", "(I)Z"⟩
def k_Fi_isSearched : KT := (prog_1_method_19_code, "FileIndexer", "isSearched", [], 3, some .boolean)
def y_Fi_isSearched : MethodName := ⟨"FileIndexer", "isSearched", "(II)Z"⟩
def k_Fi_rank : KT := (prog_1_method_20_code, "FileIndexer", "rank", [], 3, none)
def y_Fi_rank : MethodName := ⟨"FileIndexer", "rank", "(I)V"⟩
def k_Ix_entryOf : KT := (prog_3_method_3_code, "FileIndexer$Index", "entryOf", [], 2, some (.object "FileIndexer$Entry"))
def y_Ix_entryOf : MethodName := ⟨"FileIndexer$Index", "entryOf", "(I)LFileIndexer$Entry;"⟩
def k_Qy_scoreOf : KT := (prog_4_method_6_code, "FileIndexer$Query", "scoreOf", [], 5, some .int)
def y_Qy_scoreOf : MethodName := ⟨"FileIndexer$Query", "scoreOf", "(LFileIndexer$Entry;)I"⟩
def k_Qy_partOf : KT := (prog_4_method_7_code, "FileIndexer$Query", "partOf", [], 7, some .int)
def y_Qy_partOf : MethodName := ⟨"FileIndexer$Query", "partOf", "(LFileIndexer$Entry;I)I"⟩
def k_Tm_isOf : KT := (prog_7_method_3_code, "FileIndexer$Term", "isOf", [], 2, some .boolean)
def y_Tm_isOf : MethodName := ⟨"FileIndexer$Term", "isOf", "(I)Z"⟩
def k_Tm_weightIn : KT := (prog_7_method_9_code, "FileIndexer$Term", "weightIn", [], 4, some .int)
def y_Tm_weightIn : MethodName := ⟨"FileIndexer$Term", "weightIn", "(LFileIndexer$Entry;)I"⟩
def k_En_size : KT := (prog_2_method_2_code, "FileIndexer$Entry", "size", [], 1, some .int)
def y_En_size : MethodName := ⟨"FileIndexer$Entry", "size", "()I"⟩
def k_Tm_hits : KT := (prog_7_method_10_code, "FileIndexer$Term", "hits", [], 4, some .boolean)
def y_Tm_hits : MethodName := ⟨"FileIndexer$Term", "hits", "(LFileIndexer$Entry;I)Z"⟩
def k_En_wordAt : KT := (prog_2_method_3_code, "FileIndexer$Entry", "wordAt", [], 2, some .long)
def y_En_wordAt : MethodName := ⟨"FileIndexer$Entry", "wordAt", "(I)J"⟩
def k_En_weightAt : KT := (prog_2_method_4_code, "FileIndexer$Entry", "weightAt", [], 2, some .int)
def y_En_weightAt : MethodName := ⟨"FileIndexer$Entry", "weightAt", "(I)I"⟩
def k_Tm_isUnwanted : KT := (prog_7_method_4_code, "FileIndexer$Term", "isUnwanted", [], 1, some .boolean)
def y_Tm_isUnwanted : MethodName := ⟨"FileIndexer$Term", "isUnwanted", "()Z"⟩
def k_Mt_max : KT := (prog_14_method_65_code, "java/lang/Math", "max", [], 2, some .int)
def y_Mt_max : MethodName := ⟨"java/lang/Math", "max", "(II)I"⟩
def k_Rk_add : KT := (prog_6_method_6_code, "FileIndexer$Ranking", "add", [], 4, none)
def y_Rk_add : MethodName := ⟨"FileIndexer$Ranking", "add", "(II)V"⟩
def k_Rk_size : KT := (prog_6_method_2_code, "FileIndexer$Ranking", "size", [], 1, some .int)
def y_Rk_size : MethodName := ⟨"FileIndexer$Ranking", "size", "()I"⟩
def k_Fi_result : KT := (prog_1_method_12_code, "FileIndexer", "result", [], 3, some .int)
def y_Fi_result : MethodName := ⟨"FileIndexer", "result", "(II)I"⟩
def k_Rk_fileAt : KT := (prog_6_method_3_code, "FileIndexer$Ranking", "fileAt", [], 2, some .int)
def y_Rk_fileAt : MethodName := ⟨"FileIndexer$Ranking", "fileAt", "(I)I"⟩
def k_Rk_scoreAt : KT := (prog_6_method_4_code, "FileIndexer$Ranking", "scoreAt", [], 2, some .int)
def y_Rk_scoreAt : MethodName := ⟨"FileIndexer$Ranking", "scoreAt", "(I)I"⟩
def k_Fi_words : KT := (prog_1_method_13_code, "FileIndexer", "words", [], 2, some .int)
def y_Fi_words : MethodName := ⟨"FileIndexer", "words", "(I)I"⟩
def k_Fi_event : KT := (prog_1_method_14_code, "FileIndexer", "event", [], 2, some .int)
def y_Fi_event : MethodName := ⟨"FileIndexer", "event", "(I)I"⟩
def k_Fi_count : KT := (prog_1_method_15_code, "FileIndexer", "count", [], 2, some .int)
def y_Fi_count : MethodName := ⟨"FileIndexer", "count", "(I)I"⟩
def k_Tr_nodesThere : KT := (prog_8_method_14_code, "FileIndexer$Tree", "nodesThere", [], 3, some .int)
def y_Tr_nodesThere : MethodName := ⟨"FileIndexer$Tree", "nodesThere", "()I"⟩
def k_Tr_filesThere : KT := (prog_8_method_15_code, "FileIndexer$Tree", "filesThere", [], 3, some .int)
def y_Tr_filesThere : MethodName := ⟨"FileIndexer$Tree", "filesThere", "()I"⟩
def k_Ix_size : KT := (prog_3_method_6_code, "FileIndexer$Index", "size", [], 3, some .int)
def y_Ix_size : MethodName := ⟨"FileIndexer$Index", "size", "()I"⟩
def k_Ix_timesRead : KT := (prog_3_method_7_code, "FileIndexer$Index", "timesRead", [], 1, some .int)
def y_Ix_timesRead : MethodName := ⟨"FileIndexer$Index", "timesRead", "()I"⟩
def k_Md_init : KT := (prog_10_method_1_code, "FileIndexerModel", "<init>", [], 1, none)
def y_Md_init : MethodName := ⟨"FileIndexerModel", "<init>", "()V"⟩
def k_Md_thrown : KT := (prog_10_method_2_code, "FileIndexerModel", "thrown", [], 1, some .int)
def y_Md_thrown : MethodName := ⟨"FileIndexerModel", "thrown", "()I"⟩
def k_Md_make : KT := (prog_10_method_11_code, "FileIndexerModel", "make", [], 4, some .int)
def y_Md_make : MethodName := ⟨"FileIndexerModel", "make", "(IIZ)I"⟩
def k_Md_in : KT := (prog_10_method_4_code, "FileIndexerModel", "in", [], 3, some .boolean)
def y_Md_in : MethodName := ⟨"FileIndexerModel", "in", "(III)Z"⟩
def k_Md_raise : KT := (prog_10_method_3_code, "FileIndexerModel", "raise", [], 2, some .int)
def y_Md_raise : MethodName := ⟨"FileIndexerModel", "raise", "(I)I"⟩
def k_Md_isFolder : KT := (prog_10_method_5_code, "FileIndexerModel", "isFolder", [], 2, some .boolean)
def y_Md_isFolder : MethodName := ⟨"FileIndexerModel", "isFolder", "(I)Z"⟩
def k_Md_tell : KT := (prog_10_method_10_code, "FileIndexerModel", "tell", [], 4, none)
def y_Md_tell : MethodName := ⟨"FileIndexerModel", "tell", "(II)V"⟩
def k_Md_together : KT := (prog_10_method_8_code, "FileIndexerModel", "together", [], 2, some .int)
def y_Md_together : MethodName := ⟨"FileIndexerModel", "together", "(II)I"⟩
def k_Md_drop : KT := (prog_10_method_9_code, "FileIndexerModel", "drop", [], 3, none)
def y_Md_drop : MethodName := ⟨"FileIndexerModel", "drop", "(I)V"⟩
def k_Md_write : KT := (prog_10_method_12_code, "FileIndexerModel", "write", [], 6, some .int)
def y_Md_write : MethodName := ⟨"FileIndexerModel", "write", "(IJI)I"⟩
def k_Md_isFile : KT := (prog_10_method_6_code, "FileIndexerModel", "isFile", [], 2, some .boolean)
def y_Md_isFile : MethodName := ⟨"FileIndexerModel", "isFile", "(I)Z"⟩
def k_Md_cut : KT := (prog_10_method_13_code, "FileIndexerModel", "cut", [], 4, some .int)
def y_Md_cut : MethodName := ⟨"FileIndexerModel", "cut", "(II)I"⟩
def k_Md_remove : KT := (prog_10_method_14_code, "FileIndexerModel", "remove", [], 4, some .int)
def y_Md_remove : MethodName := ⟨"FileIndexerModel", "remove", "(I)I"⟩
def k_Md_mark : KT := (prog_10_method_15_code, "FileIndexerModel", "mark", [], 3, none)
def y_Md_mark : MethodName := ⟨"FileIndexerModel", "mark", "(I)V"⟩
def k_Md_within : KT := (prog_10_method_7_code, "FileIndexerModel", "within", [], 4, some .boolean)
def y_Md_within : MethodName := ⟨"FileIndexerModel", "within", "(II)Z"⟩
def k_Md_move : KT := (prog_10_method_16_code, "FileIndexerModel", "move", [], 4, some .int)
def y_Md_move : MethodName := ⟨"FileIndexerModel", "move", "(II)I"⟩
def k_Md_work : KT := (prog_10_method_19_code, "FileIndexerModel", "work", [], 4, some .int)
def y_Md_work : MethodName := ⟨"FileIndexerModel", "work", "(I)I"⟩
def k_Md_read : KT := (prog_10_method_18_code, "FileIndexerModel", "read", [], 11, none)
def y_Md_read : MethodName := ⟨"FileIndexerModel", "read", "(I)V"⟩
def k_Md_letter : KT := (prog_10_method_17_code, "FileIndexerModel", "letter", [], 1, some .int)
def y_Md_letter : MethodName := ⟨"FileIndexerModel", "letter", "(I)I"⟩
def k_Md_rescan : KT := (prog_10_method_20_code, "FileIndexerModel", "rescan", [], 3, some .int)
def y_Md_rescan : MethodName := ⟨"FileIndexerModel", "rescan", "()I"⟩
def k_Md_type : KT := (prog_10_method_21_code, "FileIndexerModel", "type", [], 2, some .int)
def y_Md_type : MethodName := ⟨"FileIndexerModel", "type", "(I)I"⟩
def k_Md_search : KT := (prog_10_method_33_code, "FileIndexerModel", "search", [], 7, some .int)
def y_Md_search : MethodName := ⟨"FileIndexerModel", "search", "(I)I"⟩
def k_Md_parse : KT := (prog_10_method_28_code, "FileIndexerModel", "parse", [], 4, some .int)
def y_Md_parse : MethodName := ⟨"FileIndexerModel", "parse", "()I"⟩
def k_Md_blanks : KT := (prog_10_method_23_code, "FileIndexerModel", "blanks", [], 1, none)
def y_Md_blanks : MethodName := ⟨"FileIndexerModel", "blanks", "()V"⟩
def k_Md_now : KT := (prog_10_method_22_code, "FileIndexerModel", "now", [], 1, some .int)
def y_Md_now : MethodName := ⟨"FileIndexerModel", "now", "()I"⟩
def k_Md_takeTerm : KT := (prog_10_method_27_code, "FileIndexerModel", "takeTerm", [], 2, none)
def y_Md_takeTerm : MethodName := ⟨"FileIndexerModel", "takeTerm", "(I)V"⟩
def k_Md_takePhrase : KT := (prog_10_method_26_code, "FileIndexerModel", "takePhrase", [], 2, none)
def y_Md_takePhrase : MethodName := ⟨"FileIndexerModel", "takePhrase", "()V"⟩
def k_Md_blame : KT := (prog_10_method_24_code, "FileIndexerModel", "blame", [], 1, none)
def y_Md_blame : MethodName := ⟨"FileIndexerModel", "blame", "()V"⟩
def k_Md_takeWord : KT := (prog_10_method_25_code, "FileIndexerModel", "takeWord", [], 4, none)
def y_Md_takeWord : MethodName := ⟨"FileIndexerModel", "takeWord", "()V"⟩
def k_Md_score : KT := (prog_10_method_31_code, "FileIndexerModel", "score", [], 6, some .int)
def y_Md_score : MethodName := ⟨"FileIndexerModel", "score", "(II)I"⟩
def k_Md_hits : KT := (prog_10_method_30_code, "FileIndexerModel", "hits", [], 8, some .int)
def y_Md_hits : MethodName := ⟨"FileIndexerModel", "hits", "(II)I"⟩
def k_Md_hit : KT := (prog_10_method_29_code, "FileIndexerModel", "hit", [], 4, some .boolean)
def y_Md_hit : MethodName := ⟨"FileIndexerModel", "hit", "(II)Z"⟩
def k_Md_place : KT := (prog_10_method_32_code, "FileIndexerModel", "place", [], 4, none)
def y_Md_place : MethodName := ⟨"FileIndexerModel", "place", "(II)V"⟩
def k_Md_fault : KT := (prog_10_method_34_code, "FileIndexerModel", "fault", [], 1, some .int)
def y_Md_fault : MethodName := ⟨"FileIndexerModel", "fault", "()I"⟩
def k_Md_result : KT := (prog_10_method_35_code, "FileIndexerModel", "result", [], 3, some .int)
def y_Md_result : MethodName := ⟨"FileIndexerModel", "result", "(II)I"⟩
def k_Md_words : KT := (prog_10_method_36_code, "FileIndexerModel", "words", [], 2, some .int)
def y_Md_words : MethodName := ⟨"FileIndexerModel", "words", "(I)I"⟩
def k_Md_event : KT := (prog_10_method_37_code, "FileIndexerModel", "event", [], 2, some .int)
def y_Md_event : MethodName := ⟨"FileIndexerModel", "event", "(I)I"⟩
def k_Md_count : KT := (prog_10_method_38_code, "FileIndexerModel", "count", [], 4, some .int)
def y_Md_count : MethodName := ⟨"FileIndexerModel", "count", "(I)I"⟩
def k_Lw_make : KT := (method_3_code, "FileIndexerLaw", "make", [(0, 12, 15, 13), (0, 12, 19, 15)], 6, some .int)
def y_Lw_make : MethodName := ⟨"FileIndexerLaw", "make", "(LFileIndexer;IIZ[J)I"⟩
def k_Lw_write : KT := (method_4_code, "FileIndexerLaw", "write", [(0, 13, 16, 21), (0, 13, 20, 13), (0, 13, 24, 15)], 7, some .int)
def y_Lw_write : MethodName := ⟨"FileIndexerLaw", "write", "(LFileIndexer;IJI[J)I"⟩
def k_Lw_cut : KT := (method_5_code, "FileIndexerLaw", "cut", [(0, 10, 13, 21), (0, 10, 17, 13)], 5, some .int)
def y_Lw_cut : MethodName := ⟨"FileIndexerLaw", "cut", "(LFileIndexer;II[J)I"⟩
def k_Lw_remove : KT := (method_6_code, "FileIndexerLaw", "remove", [(0, 9, 12, 13), (0, 9, 15, 21)], 4, some .int)
def y_Lw_remove : MethodName := ⟨"FileIndexerLaw", "remove", "(LFileIndexer;I[J)I"⟩
def k_Lw_move : KT := (method_7_code, "FileIndexerLaw", "move", [(0, 10, 13, 13), (0, 10, 17, 21), (0, 10, 21, 15)], 5, some .int)
def y_Lw_move : MethodName := ⟨"FileIndexerLaw", "move", "(LFileIndexer;II[J)I"⟩
def k_Lw_work : KT := (method_8_code, "FileIndexerLaw", "work", [(0, 9, 12, 13), (0, 9, 15, 15)], 4, some .int)
def y_Lw_work : MethodName := ⟨"FileIndexerLaw", "work", "(LFileIndexer;I[J)I"⟩
def k_Lw_type : KT := (method_9_code, "FileIndexerLaw", "type", [(0, 9, 12, 13), (0, 9, 15, 15)], 4, some .int)
def y_Lw_type : MethodName := ⟨"FileIndexerLaw", "type", "(LFileIndexer;I[J)I"⟩
def k_Lw_search : KT := (method_10_code, "FileIndexerLaw", "search", [(0, 9, 12, 21), (0, 9, 15, 13)], 4, some .int)
def y_Lw_search : MethodName := ⟨"FileIndexerLaw", "search", "(LFileIndexer;I[J)I"⟩
def k_Lw_result : KT := (method_11_code, "FileIndexerLaw", "result", [(0, 10, 13, 21), (0, 10, 17, 13)], 5, some .int)
def y_Lw_result : MethodName := ⟨"FileIndexerLaw", "result", "(LFileIndexer;II[J)I"⟩
def k_Lw_words : KT := (method_12_code, "FileIndexerLaw", "words", [(0, 9, 12, 21)], 4, some .int)
def y_Lw_words : MethodName := ⟨"FileIndexerLaw", "words", "(LFileIndexer;I[J)I"⟩
def k_Lw_event : KT := (method_13_code, "FileIndexerLaw", "event", [(0, 9, 12, 21)], 4, some .int)
def y_Lw_event : MethodName := ⟨"FileIndexerLaw", "event", "(LFileIndexer;I[J)I"⟩
def k_Lw_count : KT := (method_14_code, "FileIndexerLaw", "count", [(0, 9, 12, 13)], 4, some .int)
def y_Lw_count : MethodName := ⟨"FileIndexerLaw", "count", "(LFileIndexer;I[J)I"⟩
def k_Lw_law : KT := (code, "FileIndexerLaw", "law", [], 7, some .boolean)
def y_Lw_law : MethodName := ⟨"FileIndexerLaw", "law", "([I)Z"⟩
end
section
/-! ===== THE MEMORY. What the law has made is numbered 0, 1, .. in the order of its making. A shape S: how many cells; of each its kind (a class's number below 32, or an array's sort from 32 on) and length; its references. The ints stand in I, the longs in J, by cell and place. ===== -/
abbrev CT : Type := State × Array Value × Nat × Nat × (Nat → Int32) × va_G × (Nat → ClassId)
abbrev ShT : Type := Nat × (Nat → Nat × Nat) × (Nat → Nat → Option Nat)
abbrev DI : Type := Nat → Nat → Int32
abbrev DJ : Type := Nat → Nat → Int64
abbrev cS (C : CT) : State := C.1
abbrev cG (C : CT) : Array Value := C.2.1
abbrev cB (C : CT) : Nat := C.2.2.1
abbrev cN (C : CT) : Nat := C.2.2.2.1
abbrev cX (C : CT) : Nat → Int32 := C.2.2.2.2.1
abbrev cD (C : CT) : va_G := C.2.2.2.2.2.1
abbrev cA (C : CT) : Nat → ClassId := C.2.2.2.2.2.2
abbrev c0 (C : CT) : Nat := C.1.heap.size
def fR (C : CT) (r : Option Nat) : Value := match r with
  | some k => .ref (c0 C + k)
  | none => .null
def fV (C : CT) (S : ShT) (I : DI) (J : DJ) (k j : Nat) (ty : FieldType) : Value := match ty with
  | .long => .long (J k j)
  | .object _ => fR C (S.2.2 k j)
  | .array _ => fR C (S.2.2 k j)
  | _ => .int (I k j)
def fL (C : CT) (S : ShT) (I : DI) (J : DJ) (k t : Nat) : List Value := (List.range (kF t)).map (fun j => fV C S I J k j (kY t j))
def fA (C : CT) (S : ShT) (I : DI) (J : DJ) (k t n : Nat) : vp_A := (n, if t = 34 then .inr (.inl (J k)) else if t < 34 then .inl (I k) else .inr (.inr (.inr (.inr (fun j => (S.2.2 k j).map (fun r => c0 C + r))))))
def cel (C : CT) (S : ShT) (I : DI) (J : DJ) (k : Nat) : va_E := if (S.2.1 k).1 < 32 then .inr ((S.2.1 k).1, fL C S I J k (S.2.1 k).1) else .inl (cA C (S.2.1 k).1, fA C S I J k (S.2.1 k).1 (S.2.1 k).2)
def MR (C : CT) (S : ShT) (I : DI) (J : DJ) (H : Heap) : Prop := H.size = c0 C + S.1 ∧ ∀ k, k < S.1 → va_at (cD C) vwCl (c0 C + k, cel C S I J k) H
def tgT : Nat → FieldType := fun t => match t with
  | 32 => .int
  | 33 => .boolean
  | 34 => .long
  | 35 => .object "FileIndexer$Entry"
  | 36 => .object "FileIndexer$Term"
  | _ => .array .int
/-- a value of the memory as the machine has it; the script is '.retAddr 0' -/
def cv (C : CT) : Value → Value := fun v => match v with
  | .ref k => .ref (c0 C + k)
  | .retAddr _ => .ref (cB C)
  | v => v
theorem cv_cat (C : CT) (v : Value) : (cv C v).category = v.category := by cases v <;> rfl
def GG (C : CT) (U : State) : Prop := (cS C).WarmedH U.vm ∧ ∀ q, q < c0 C → U.heap[q]? = (cS C).heap[q]?
def OKC (C : CT) (l : Launch) : Prop := l.flags = flags0 ∧ (∀ w ∈ lw_tbl, w.before (cG C) (cS C) = true) ∧ va_K (cD C) vwCl [] (cS C) ∧ (∀ t, 32 ≤ t → ArrOfT (cS C) (cA C t) (tgT t) ∧ va_RA (cS C) (cA C t) (tgT t)) ∧ va_X (cB C) (cN C) (cX C) (cS C) (cS C).heap ∧ cB C < c0 C ∧
  (Cond.isRef (.static "java/lang/Throwable" "UNASSIGNED_STACK" "[Ljava/lang/StackTraceElement;")).before (cG C) (cS C) = true ∧ (Cond.isRef (.static "java/lang/Throwable" "SUPPRESSED_SENTINEL" "Ljava/util/List;")).before (cG C) (cS C) = true ∧
  ∀ i j : Nat, (i = 9 ∨ i = 10 ∨ i = 11) → (j = 9 ∨ j = 10 ∨ j = 11) → i ≠ j → (Cond.not (.castable (kN i) (kN j))).before (cG C) (cS C) = true
theorem Wd.at {w : Cond} (h : Wd w) {C : CT} {l : Launch} (hC : OKC C l) {U : State} (hW : (cS C).WarmedH U.vm) (a : Array Value) : w.before a U = true := word_at hW (good_of_word h.2) (hC.2.1 w h.1)
abbrev RsT : Type := Option Value ⊕ Nat
abbrev PoT : Type := RsT → ShT → DI → DJ → Prop
def oOf (C : CT) (r : RsT) (S : ShT) (o : Outcome) : Prop := match r with
  | .inl v => o = .returned (v.map (cv C))
  | .inr ci => ∃ k, S.1 = k + 1 ∧ (S.2.1 k).1 = ci ∧ o = .threw (c0 C + k)
def QX (C : CT) (Po : PoT) (o : Outcome) (t : State) : Prop := ∃ (r : RsT) (S : ShT) (I : DI) (J : DJ), Po r S I J ∧ MR C S I J t.heap ∧ GG C t ∧ oOf C r S o
abbrev RT : Type := Nat × Nat × Nat
def RM (R : RT) : Room := { frames := R.1, cells := R.2.1, slots := R.2.2, locals := 36 * R.1 }
def EX (C : CT) (R : RT) (s t : State) : Prop := ∃ L : List Loc, s.WarmedH t.vm ∧ s.sameButNew ({ t with vm := s.vm } : State) L R.2.1 R.2.2 ∧ ∀ q ∈ L, c0 C ≤ q.base
def ZX (C : CT) (R : RT) (Po : PoT) (below : List Frame) (s : State) : State → Prop := fun t => ∃ o, t.status = .running ∧ Ended t below o ∧ QX C Po o t ∧ EX C R s t
abbrev AX (C : CT) : Nat → Prop := fun q => c0 C ≤ q
def Iv (C : CT) (l : Launch) (K : KT) (p : Program) (s : State) (m : MethodId) (meth : Method) (c : Code) : Prop :=
  OKC C l ∧ p.tables.exec = Jvm.exec ∧ c.code = K.1 ∧ meth.sig.returnType = K.2.2.2.2.2 ∧ c.maxLocals = K.2.2.2.2.1 ∧ s.vm.findClass K.2.1 = some m.cls ∧ meth.locks = false ∧ c.exceptionTable.toList.map (fun x => (x.startPc, x.endPc, x.handlerPc, x.catchType)) = K.2.2.2.1 ∧ GG C s ∧ (∃ S I J, MR C S I J s.heap) ∧ meth.name = K.2.2.1
abbrev LT : Type := List (Nat × Value)
def lC (C : CT) (L : LT) : LT := L.map (fun q => (q.1, cv C q.2))
/-- THE JUDGEMENT: inside a method of the card K, at pc, with these locals, this stack and this memory, u cells and slots made so far: the method comes to an end with Po -/
def V (C : CT) (l : Launch) (K : KT) (R : RT) (Po : PoT) (pc : Nat) (L : LT) (st : List Value) (S : ShT) (I : DI) (J : DJ) (u : Nat × Nat) : Prop :=
  ∀ (p : Program) (e : Env) (s : State) (m : MethodId) (args : Array Value) (below : List Frame) (meth : Method) (c : Code), Iv C l K p s m meth c →
    ∀ (H : Heap) (ls : Array Slot) (locs : List Loc), MR C S I J H → lv_has ls K.2.2.2.2.1 (lC C L) → va_S (AX C) s.heap H locs → u.1 ≤ R.2.1 → u.2 ≤ R.2.2 →
    W p l e (RM R) s m args below meth c H locs u.1 u.2 (ZX C R Po below s) (F0 m pc ls (st.map (cv C)))
theorem lC_at {C : CT} {L : LT} {n i : Nat} {v : Value} {ls : Array Slot} {nL : Nat} (h : lv_has ls nL (lC C L)) (hl : L[n]? = some (i, v)) : ls[i]? = some (.val (cv C v)) := lv_at h n (by unfold lC; rw [List.getElem?_map, hl]; rfl)
theorem lC_f1 {C : CT} {L : LT} {i : Nat} : (lC C L).filter (fun q => !(q.1 == i) && !(q.1 + 1 == i && q.2.category == 2)) = lC C (L.filter (fun q => !(q.1 == i) && !(q.1 + 1 == i && q.2.category == 2))) := by
  unfold lC
  rw [List.filter_map]
  congr 2
  funext q
  simp [cv_cat]
theorem lC_f2 {C : CT} {L : LT} {i : Nat} : (lC C L).filter (fun q => !(q.1 == i) && (!(q.1 == i + 1) && !(q.1 + 1 == i && q.2.category == 2))) = lC C (L.filter (fun q => !(q.1 == i) && (!(q.1 == i + 1) && !(q.1 + 1 == i && q.2.category == 2)))) := by
  unfold lC
  rw [List.filter_map]
  congr 2
  funext q
  simp [cv_cat]
/-- the locals behind a store of one slot, of two slots -/
def s1 (L : LT) (i : Nat) (v : Value) : LT := (i, v) :: L.filter (fun q => !(q.1 == i) && !(q.1 + 1 == i && q.2.category == 2))
def s2 (L : LT) (i : Nat) (v : Value) : LT := (i, v) :: L.filter (fun q => !(q.1 == i) && (!(q.1 == i + 1) && !(q.1 + 1 == i && q.2.category == 2)))
section Rows
variable {C : CT} {l : Launch} {K : KT} {R : RT} {Po : PoT} {pc pc' : Nat} {L L' : LT} {st : List Value} {S : ShT} {I : DI} {J : DJ} {u : Nat × Nat}
theorem v_sub (ks : List Nat) (hl : lv_pick L ks = L') (k : V C l K R Po pc L' st S I J u) : V C l K R Po pc L st S I J u := by
  intro p e s m args below meth c hI H ls locs hM hL hS h1 h2
  refine k p e s m args below meth c hI H ls locs hM (lv_sub hL ks ?_) hS h1 h2
  rw [← hl]
  unfold lC lv_pick
  rw [List.map_filterMap]
  congr 1
  funext i
  rw [List.getElem?_map]
theorem v_nmi {x : Int32} (k : ∀ y : Int32, y = x → V C l K R Po pc L (.int y :: st) S I J u) : V C l K R Po pc L (.int x :: st) S I J u := k x rfl
theorem v_nml {x : Int64} (k : ∀ y : Int64, y = x → V C l K R Po pc L (.long y :: st) S I J u) : V C l K R Po pc L (.long x :: st) S I J u := k x rfl
theorem v_iconst {n : Int} {v : Int32} (hd : decode K.1 pc = .ok (.iconst n, 1)) (hv : Int32.ofInt n = v) (hp : pc + 1 = pc') (k : V C l K R Po pc' L (.int v :: st) S I J u) : V C l K R Po pc L st S I J u := by
  intro p e s m args below meth c hI H ls locs hM hL hS h1 h2
  subst hp
  exact lv_iconst hI.2.1 hI.2.2.1 hd hv (k p e s m args below meth c hI H ls locs hM hL hS h1 h2)
theorem v_bipush {n : Int} {v : Int32} (hd : decode K.1 pc = .ok (.bipush n, 2)) (hv : (Int8.ofInt n).toInt32 = v) (hp : pc + 2 = pc') (k : V C l K R Po pc' L (.int v :: st) S I J u) : V C l K R Po pc L st S I J u := by
  intro p e s m args below meth c hI H ls locs hM hL hS h1 h2
  subst hp
  exact lv_bipush hI.2.1 hI.2.2.1 hd hv (k p e s m args below meth c hI H ls locs hM hL hS h1 h2)
theorem v_sipush {n : Int} {v : Int32} (hd : decode K.1 pc = .ok (.sipush n, 3)) (hv : (Int16.ofInt n).toInt32 = v) (hp : pc + 3 = pc') (k : V C l K R Po pc' L (.int v :: st) S I J u) : V C l K R Po pc L st S I J u := by
  intro p e s m args below meth c hI H ls locs hM hL hS h1 h2
  subst hp
  exact lv_sipush hI.2.1 hI.2.2.1 hd hv (k p e s m args below meth c hI H ls locs hM hL hS h1 h2)
theorem v_lconst {n : Fin 2} {v : Int64} (hd : decode K.1 pc = .ok (.lconst n, 1)) (hv : Int64.ofNat (n : Nat) = v) (hp : pc + 1 = pc') (k : V C l K R Po pc' L (.long v :: st) S I J u) : V C l K R Po pc L st S I J u := by
  intro p e s m args below meth c hI H ls locs hM hL hS h1 h2
  subst hp
  exact lv_lconst hI.2.1 hI.2.2.1 hd hv (k p e s m args below meth c hI H ls locs hM hL hS h1 h2)
theorem v_iload_n {k4 : Fin 4} {i : Nat} {x : Int32} (n : Nat) (hd : decode K.1 pc = .ok (.iload_n k4, 1)) (hi : (k4 : Nat) = i) (hl : L[n]? = some (i, .int x)) (hp : pc + 1 = pc') (k : V C l K R Po pc' L (.int x :: st) S I J u) : V C l K R Po pc L st S I J u := by
  intro p e s m args below meth c hI H ls locs hM hL hS h1 h2
  subst hp
  exact lv_iload_n hI.2.1 hI.2.2.1 hd hi (lC_at hL hl) (k p e s m args below meth c hI H ls locs hM hL hS h1 h2)
theorem v_iload {i : Nat} {x : Int32} (n : Nat) (hd : decode K.1 pc = .ok (.iload i, 2)) (hl : L[n]? = some (i, .int x)) (hp : pc + 2 = pc') (k : V C l K R Po pc' L (.int x :: st) S I J u) : V C l K R Po pc L st S I J u := by
  intro p e s m args below meth c hI H ls locs hM hL hS h1 h2
  subst hp
  exact lv_iload hI.2.1 hI.2.2.1 hd (lC_at hL hl) (k p e s m args below meth c hI H ls locs hM hL hS h1 h2)
theorem v_lload_n {k4 : Fin 4} {i : Nat} {x : Int64} (n : Nat) (hd : decode K.1 pc = .ok (.lload_n k4, 1)) (hi : (k4 : Nat) = i) (hl : L[n]? = some (i, .long x)) (hp : pc + 1 = pc') (k : V C l K R Po pc' L (.long x :: st) S I J u) : V C l K R Po pc L st S I J u := by
  intro p e s m args below meth c hI H ls locs hM hL hS h1 h2
  subst hp
  exact lv_lload_n hI.2.1 hI.2.2.1 hd hi (lC_at hL hl) (k p e s m args below meth c hI H ls locs hM hL hS h1 h2)
theorem v_lload {i : Nat} {x : Int64} (n : Nat) (hd : decode K.1 pc = .ok (.lload i, 2)) (hl : L[n]? = some (i, .long x)) (hp : pc + 2 = pc') (k : V C l K R Po pc' L (.long x :: st) S I J u) : V C l K R Po pc L st S I J u := by
  intro p e s m args below meth c hI H ls locs hM hL hS h1 h2
  subst hp
  exact lv_lload hI.2.1 hI.2.2.1 hd (lC_at hL hl) (k p e s m args below meth c hI H ls locs hM hL hS h1 h2)
theorem v_aload_n {k4 : Fin 4} {i : Nat} {x : Nat} (n : Nat) (hd : decode K.1 pc = .ok (.aload_n k4, 1)) (hi : (k4 : Nat) = i) (hl : L[n]? = some (i, .ref x)) (hp : pc + 1 = pc') (k : V C l K R Po pc' L (.ref x :: st) S I J u) : V C l K R Po pc L st S I J u := by
  intro p e s m args below meth c hI H ls locs hM hL hS h1 h2
  subst hp
  exact lv_aload_n hI.2.1 hI.2.2.1 hd hi (lC_at hL hl) (k p e s m args below meth c hI H ls locs hM hL hS h1 h2)
theorem v_aload {i : Nat} {x : Nat} (n : Nat) (hd : decode K.1 pc = .ok (.aload i, 2)) (hl : L[n]? = some (i, .ref x)) (hp : pc + 2 = pc') (k : V C l K R Po pc' L (.ref x :: st) S I J u) : V C l K R Po pc L st S I J u := by
  intro p e s m args below meth c hI H ls locs hM hL hS h1 h2
  subst hp
  exact lv_aload hI.2.1 hI.2.2.1 hd (lC_at hL hl) (k p e s m args below meth c hI H ls locs hM hL hS h1 h2)
theorem v_sload_n {k4 : Fin 4} {i : Nat} {x : Nat} (n : Nat) (hd : decode K.1 pc = .ok (.aload_n k4, 1)) (hi : (k4 : Nat) = i) (hl : L[n]? = some (i, .retAddr x)) (hp : pc + 1 = pc') (k : V C l K R Po pc' L (.retAddr x :: st) S I J u) : V C l K R Po pc L st S I J u := by
  intro p e s m args below meth c hI H ls locs hM hL hS h1 h2
  subst hp
  exact lv_aload_n hI.2.1 hI.2.2.1 hd hi (lC_at hL hl) (k p e s m args below meth c hI H ls locs hM hL hS h1 h2)
theorem v_istore_n {k4 : Fin 4} {i : Nat} {x : Int32} (hd : decode K.1 pc = .ok (.istore_n k4, 1)) (hi : (k4 : Nat) = i) (hn : i < K.2.2.2.2.1) (hl : s1 L i (.int x) = L') (hp : pc + 1 = pc') (k : V C l K R Po pc' L' st S I J u) : V C l K R Po pc L ((.int x) :: st) S I J u := by
  intro p e s m args below meth c hI H ls locs hM hL hS h1 h2
  subst hp
  exact lv_istore_n hI.2.1 hI.2.2.1 hd hi hL hn (show _ = lC C L' by rw [← hl, lC_f1]; rfl) (fun ls hL => k p e s m args below meth c hI H ls locs hM hL hS h1 h2)
theorem v_istore {i : Nat} {x : Int32} (hd : decode K.1 pc = .ok (.istore i, 2)) (hn : i < K.2.2.2.2.1) (hl : s1 L i (.int x) = L') (hp : pc + 2 = pc') (k : V C l K R Po pc' L' st S I J u) : V C l K R Po pc L ((.int x) :: st) S I J u := by
  intro p e s m args below meth c hI H ls locs hM hL hS h1 h2
  subst hp
  exact lv_istore hI.2.1 hI.2.2.1 hd hL hn (show _ = lC C L' by rw [← hl, lC_f1]; rfl) (fun ls hL => k p e s m args below meth c hI H ls locs hM hL hS h1 h2)
theorem v_astore_n {k4 : Fin 4} {i : Nat} {x : Nat} (hd : decode K.1 pc = .ok (.astore_n k4, 1)) (hi : (k4 : Nat) = i) (hn : i < K.2.2.2.2.1) (hl : s1 L i (.ref x) = L') (hp : pc + 1 = pc') (k : V C l K R Po pc' L' st S I J u) : V C l K R Po pc L ((.ref x) :: st) S I J u := by
  intro p e s m args below meth c hI H ls locs hM hL hS h1 h2
  subst hp
  exact lv_astore_n hI.2.1 hI.2.2.1 hd hi hL hn (show _ = lC C L' by rw [← hl, lC_f1]; rfl) (fun ls hL => k p e s m args below meth c hI H ls locs hM hL hS h1 h2)
theorem v_astore {i : Nat} {x : Nat} (hd : decode K.1 pc = .ok (.astore i, 2)) (hn : i < K.2.2.2.2.1) (hl : s1 L i (.ref x) = L') (hp : pc + 2 = pc') (k : V C l K R Po pc' L' st S I J u) : V C l K R Po pc L ((.ref x) :: st) S I J u := by
  intro p e s m args below meth c hI H ls locs hM hL hS h1 h2
  subst hp
  exact lv_astore hI.2.1 hI.2.2.1 hd hL hn (show _ = lC C L' by rw [← hl, lC_f1]; rfl) (fun ls hL => k p e s m args below meth c hI H ls locs hM hL hS h1 h2)
theorem v_lstore_n {k4 : Fin 4} {i : Nat} {x : Int64} (hd : decode K.1 pc = .ok (.lstore_n k4, 1)) (hi : (k4 : Nat) = i) (hn : i + 1 < K.2.2.2.2.1) (hl : s2 L i (.long x) = L') (hp : pc + 1 = pc') (k : V C l K R Po pc' L' st S I J u) : V C l K R Po pc L ((.long x) :: st) S I J u := by
  intro p e s m args below meth c hI H ls locs hM hL hS h1 h2
  subst hp
  exact lv_lstore_n hI.2.1 hI.2.2.1 hd hi hL hn (show _ = lC C L' by rw [← hl, lC_f2]; rfl) (fun ls hL => k p e s m args below meth c hI H ls locs hM hL hS h1 h2)
theorem v_lstore {i : Nat} {x : Int64} (hd : decode K.1 pc = .ok (.lstore i, 2)) (hn : i + 1 < K.2.2.2.2.1) (hl : s2 L i (.long x) = L') (hp : pc + 2 = pc') (k : V C l K R Po pc' L' st S I J u) : V C l K R Po pc L ((.long x) :: st) S I J u := by
  intro p e s m args below meth c hI H ls locs hM hL hS h1 h2
  subst hp
  exact lv_lstore hI.2.1 hI.2.2.1 hd hL hn (show _ = lC C L' by rw [← hl, lC_f2]; rfl) (fun ls hL => k p e s m args below meth c hI H ls locs hM hL hS h1 h2)
theorem v_iinc {i n : Nat} {z : Int} {x v : Int32} (hd : decode K.1 pc = .ok (.iinc i z, 3)) (hk : L[n]? = some (i, .int x)) (hv : x + Int32.ofInt z = v) (hn : i < K.2.2.2.2.1) (hl : s1 L i (.int v) = L') (hp : pc + 3 = pc') (k : V C l K R Po pc' L' st S I J u) : V C l K R Po pc L st S I J u := by
  intro p e s m args below meth c hI H ls locs hM hL hS h1 h2
  subst hp
  exact lv_iinc hI.2.1 hI.2.2.1 hd hL (k := n) (by unfold lC; rw [List.getElem?_map, hk]; rfl) hv hn (show _ = lC C L' by rw [← hl, lC_f1]; rfl) (fun ls hL => k p e s m args below meth c hI H ls locs hM hL hS h1 h2)
theorem v_iadd {x y : Int32} (hd : decode K.1 pc = .ok (.iadd, 1))  (hp : pc + 1 = pc') (k : V C l K R Po pc' L (.int (x + y) :: st) S I J u) : V C l K R Po pc L (.int y :: .int x :: st) S I J u := by
  intro p e s m args below meth c hI H ls locs hM hL hS h1 h2
  subst hp
  exact lv_iadd hI.2.1 hI.2.2.1 hd (k p e s m args below meth c hI H ls locs hM hL hS h1 h2)
theorem v_isub {x y : Int32} (hd : decode K.1 pc = .ok (.isub, 1))  (hp : pc + 1 = pc') (k : V C l K R Po pc' L (.int (x - y) :: st) S I J u) : V C l K R Po pc L (.int y :: .int x :: st) S I J u := by
  intro p e s m args below meth c hI H ls locs hM hL hS h1 h2
  subst hp
  exact lv_isub hI.2.1 hI.2.2.1 hd (k p e s m args below meth c hI H ls locs hM hL hS h1 h2)
theorem v_imul {x y : Int32} (hd : decode K.1 pc = .ok (.imul, 1))  (hp : pc + 1 = pc') (k : V C l K R Po pc' L (.int (x * y) :: st) S I J u) : V C l K R Po pc L (.int y :: .int x :: st) S I J u := by
  intro p e s m args below meth c hI H ls locs hM hL hS h1 h2
  subst hp
  exact lv_imul hI.2.1 hI.2.2.1 hd (k p e s m args below meth c hI H ls locs hM hL hS h1 h2)
theorem v_iand {x y : Int32} (hd : decode K.1 pc = .ok (.iand, 1))  (hp : pc + 1 = pc') (k : V C l K R Po pc' L (.int (x &&& y) :: st) S I J u) : V C l K R Po pc L (.int y :: .int x :: st) S I J u := by
  intro p e s m args below meth c hI H ls locs hM hL hS h1 h2
  subst hp
  exact lv_iand hI.2.1 hI.2.2.1 hd (k p e s m args below meth c hI H ls locs hM hL hS h1 h2)
theorem v_ior {x y : Int32} (hd : decode K.1 pc = .ok (.ior, 1))  (hp : pc + 1 = pc') (k : V C l K R Po pc' L (.int (x ||| y) :: st) S I J u) : V C l K R Po pc L (.int y :: .int x :: st) S I J u := by
  intro p e s m args below meth c hI H ls locs hM hL hS h1 h2
  subst hp
  exact lv_ior hI.2.1 hI.2.2.1 hd (k p e s m args below meth c hI H ls locs hM hL hS h1 h2)
theorem v_land {x y : Int64} (hd : decode K.1 pc = .ok (.land, 1))  (hp : pc + 1 = pc') (k : V C l K R Po pc' L (.long (x &&& y) :: st) S I J u) : V C l K R Po pc L (.long y :: .long x :: st) S I J u := by
  intro p e s m args below meth c hI H ls locs hM hL hS h1 h2
  subst hp
  exact lv_land hI.2.1 hI.2.2.1 hd (k p e s m args below meth c hI H ls locs hM hL hS h1 h2)
theorem v_lor {x y : Int64} (hd : decode K.1 pc = .ok (.lor, 1))  (hp : pc + 1 = pc') (k : V C l K R Po pc' L (.long (x ||| y) :: st) S I J u) : V C l K R Po pc L (.long y :: .long x :: st) S I J u := by
  intro p e s m args below meth c hI H ls locs hM hL hS h1 h2
  subst hp
  exact lv_lor hI.2.1 hI.2.2.1 hd (k p e s m args below meth c hI H ls locs hM hL hS h1 h2)
theorem v_i2l {x : Int32} {v : Int64} (hd : decode K.1 pc = .ok (.i2l, 1)) (hv : x.toInt64 = v) (hp : pc + 1 = pc') (k : V C l K R Po pc' L (.long v :: st) S I J u) : V C l K R Po pc L (.int x :: st) S I J u := by
  intro p e s m args below meth c hI H ls locs hM hL hS h1 h2
  subst hp
  exact lv_i2l hI.2.1 hI.2.2.1 hd hv (k p e s m args below meth c hI H ls locs hM hL hS h1 h2)
theorem v_l2i {x : Int64} {v : Int32} (hd : decode K.1 pc = .ok (.l2i, 1)) (hv : x.toInt32 = v) (hp : pc + 1 = pc') (k : V C l K R Po pc' L (.int v :: st) S I J u) : V C l K R Po pc L (.long x :: st) S I J u := by
  intro p e s m args below meth c hI H ls locs hM hL hS h1 h2
  subst hp
  exact lv_l2i hI.2.1 hI.2.2.1 hd hv (k p e s m args below meth c hI H ls locs hM hL hS h1 h2)
theorem v_lushr {x v : Int64} {y : Int32} (hd : decode K.1 pc = .ok (.lushr, 1)) (hv : (x.toUInt64 >>> (y.toInt64.toUInt64 &&& Int64.toUInt64 63)).toInt64 = v) (hp : pc + 1 = pc') (k : V C l K R Po pc' L (.long v :: st) S I J u) : V C l K R Po pc L (.int y :: .long x :: st) S I J u := by
  intro p e s m args below meth c hI H ls locs hM hL hS h1 h2
  subst hp
  exact lv_lushr hI.2.1 hI.2.2.1 hd hv (k p e s m args below meth c hI H ls locs hM hL hS h1 h2)
theorem v_lshl {x v : Int64} {y : Int32} (hd : decode K.1 pc = .ok (.lshl, 1)) (hv : x <<< (y.toInt64 &&& 63) = v) (hp : pc + 1 = pc') (k : V C l K R Po pc' L (.long v :: st) S I J u) : V C l K R Po pc L (.int y :: .long x :: st) S I J u := by
  intro p e s m args below meth c hI H ls locs hM hL hS h1 h2
  subst hp
  exact lv_lshl hI.2.1 hI.2.2.1 hd hv (k p e s m args below meth c hI H ls locs hM hL hS h1 h2)
theorem v_lshr {x v : Int64} {y : Int32} (hd : decode K.1 pc = .ok (.lshr, 1)) (hv : x >>> (y.toInt64 &&& 63) = v) (hp : pc + 1 = pc') (k : V C l K R Po pc' L (.long v :: st) S I J u) : V C l K R Po pc L (.int y :: .long x :: st) S I J u := by
  intro p e s m args below meth c hI H ls locs hM hL hS h1 h2
  subst hp
  exact lv_lshr hI.2.1 hI.2.2.1 hd hv (k p e s m args below meth c hI H ls locs hM hL hS h1 h2)
theorem v_dup {va : Value} (hd : decode K.1 pc = .ok (.dup, 1)) (hva : va.category = 1) (hp : pc + 1 = pc') (k : V C l K R Po pc' L (va :: va :: st) S I J u) : V C l K R Po pc L (va :: st) S I J u := by
  intro p e s m args below meth c hI H ls locs hM hL hS h1 h2
  subst hp
  exact lv_dup hI.2.1 hI.2.2.1 hd ((cv_cat C va).trans hva) (k p e s m args below meth c hI H ls locs hM hL hS h1 h2)
theorem v_dup2 {va vb : Value} (hd : decode K.1 pc = .ok (.dup2, 1)) (hva : va.category = 1) (hvb : vb.category = 1) (hp : pc + 1 = pc') (k : V C l K R Po pc' L (va :: vb :: va :: vb :: st) S I J u) : V C l K R Po pc L (va :: vb :: st) S I J u := by
  intro p e s m args below meth c hI H ls locs hM hL hS h1 h2
  subst hp
  exact lv_dup2_11 hI.2.1 hI.2.2.1 hd ((cv_cat C va).trans hva) ((cv_cat C vb).trans hvb) (k p e s m args below meth c hI H ls locs hM hL hS h1 h2)
theorem v_pop {va : Value} (hd : decode K.1 pc = .ok (.pop, 1)) (hva : va.category = 1) (hp : pc + 1 = pc') (k : V C l K R Po pc' L st S I J u) : V C l K R Po pc L (va :: st) S I J u := by
  intro p e s m args below meth c hI H ls locs hM hL hS h1 h2
  subst hp
  exact lv_pop hI.2.1 hI.2.2.1 hd ((cv_cat C va).trans hva) (k p e s m args below meth c hI H ls locs hM hL hS h1 h2)
theorem v_if_eq {x : Int32} {off : Int} {tgt : Nat} (hd : decode K.1 pc = .ok (.ifCond .eq off, 3)) (ht : (pc : Int) + off = (tgt : Int)) (hp : pc + 3 = pc') (kt : x = 0 → V C l K R Po tgt L st S I J u) (kf : ¬ x = 0 → V C l K R Po pc' L st S I J u) : V C l K R Po pc L (.int x :: st) S I J u := by
  intro p e s m args below meth c hI H ls locs hM hL hS h1 h2
  subst hp
  exact lv_if_eq hI.2.1 hI.2.2.1 hd ht (fun q => kt q p e s m args below meth c hI H ls locs hM hL hS h1 h2) (fun q => kf q p e s m args below meth c hI H ls locs hM hL hS h1 h2)
theorem v_icmp_eq {x y : Int32} {off : Int} {tgt : Nat} (hd : decode K.1 pc = .ok (.if_icmp .eq off, 3)) (ht : (pc : Int) + off = (tgt : Int)) (hp : pc + 3 = pc') (kt : x = y → V C l K R Po tgt L st S I J u) (kf : ¬ x = y → V C l K R Po pc' L st S I J u) : V C l K R Po pc L (.int y :: .int x :: st) S I J u := by
  intro p e s m args below meth c hI H ls locs hM hL hS h1 h2
  subst hp
  exact lv_icmp_eq hI.2.1 hI.2.2.1 hd ht (fun q => kt q p e s m args below meth c hI H ls locs hM hL hS h1 h2) (fun q => kf q p e s m args below meth c hI H ls locs hM hL hS h1 h2)
theorem v_if_ne {x : Int32} {off : Int} {tgt : Nat} (hd : decode K.1 pc = .ok (.ifCond .ne off, 3)) (ht : (pc : Int) + off = (tgt : Int)) (hp : pc + 3 = pc') (kt : ¬ x = 0 → V C l K R Po tgt L st S I J u) (kf : x = 0 → V C l K R Po pc' L st S I J u) : V C l K R Po pc L (.int x :: st) S I J u := by
  intro p e s m args below meth c hI H ls locs hM hL hS h1 h2
  subst hp
  exact lv_if_ne hI.2.1 hI.2.2.1 hd ht (fun q => kt q p e s m args below meth c hI H ls locs hM hL hS h1 h2) (fun q => kf q p e s m args below meth c hI H ls locs hM hL hS h1 h2)
theorem v_icmp_ne {x y : Int32} {off : Int} {tgt : Nat} (hd : decode K.1 pc = .ok (.if_icmp .ne off, 3)) (ht : (pc : Int) + off = (tgt : Int)) (hp : pc + 3 = pc') (kt : ¬ x = y → V C l K R Po tgt L st S I J u) (kf : x = y → V C l K R Po pc' L st S I J u) : V C l K R Po pc L (.int y :: .int x :: st) S I J u := by
  intro p e s m args below meth c hI H ls locs hM hL hS h1 h2
  subst hp
  exact lv_icmp_ne hI.2.1 hI.2.2.1 hd ht (fun q => kt q p e s m args below meth c hI H ls locs hM hL hS h1 h2) (fun q => kf q p e s m args below meth c hI H ls locs hM hL hS h1 h2)
theorem v_if_lt {x : Int32} {off : Int} {tgt : Nat} (hd : decode K.1 pc = .ok (.ifCond .lt off, 3)) (ht : (pc : Int) + off = (tgt : Int)) (hp : pc + 3 = pc') (kt : x < 0 → V C l K R Po tgt L st S I J u) (kf : ¬ x < 0 → V C l K R Po pc' L st S I J u) : V C l K R Po pc L (.int x :: st) S I J u := by
  intro p e s m args below meth c hI H ls locs hM hL hS h1 h2
  subst hp
  exact lv_if_lt hI.2.1 hI.2.2.1 hd ht (fun q => kt q p e s m args below meth c hI H ls locs hM hL hS h1 h2) (fun q => kf q p e s m args below meth c hI H ls locs hM hL hS h1 h2)
theorem v_icmp_lt {x y : Int32} {off : Int} {tgt : Nat} (hd : decode K.1 pc = .ok (.if_icmp .lt off, 3)) (ht : (pc : Int) + off = (tgt : Int)) (hp : pc + 3 = pc') (kt : x < y → V C l K R Po tgt L st S I J u) (kf : ¬ x < y → V C l K R Po pc' L st S I J u) : V C l K R Po pc L (.int y :: .int x :: st) S I J u := by
  intro p e s m args below meth c hI H ls locs hM hL hS h1 h2
  subst hp
  exact lv_icmp_lt hI.2.1 hI.2.2.1 hd ht (fun q => kt q p e s m args below meth c hI H ls locs hM hL hS h1 h2) (fun q => kf q p e s m args below meth c hI H ls locs hM hL hS h1 h2)
theorem v_if_ge {x : Int32} {off : Int} {tgt : Nat} (hd : decode K.1 pc = .ok (.ifCond .ge off, 3)) (ht : (pc : Int) + off = (tgt : Int)) (hp : pc + 3 = pc') (kt : 0 ≤ x → V C l K R Po tgt L st S I J u) (kf : ¬ 0 ≤ x → V C l K R Po pc' L st S I J u) : V C l K R Po pc L (.int x :: st) S I J u := by
  intro p e s m args below meth c hI H ls locs hM hL hS h1 h2
  subst hp
  exact lv_if_ge hI.2.1 hI.2.2.1 hd ht (fun q => kt q p e s m args below meth c hI H ls locs hM hL hS h1 h2) (fun q => kf q p e s m args below meth c hI H ls locs hM hL hS h1 h2)
theorem v_icmp_ge {x y : Int32} {off : Int} {tgt : Nat} (hd : decode K.1 pc = .ok (.if_icmp .ge off, 3)) (ht : (pc : Int) + off = (tgt : Int)) (hp : pc + 3 = pc') (kt : y ≤ x → V C l K R Po tgt L st S I J u) (kf : ¬ y ≤ x → V C l K R Po pc' L st S I J u) : V C l K R Po pc L (.int y :: .int x :: st) S I J u := by
  intro p e s m args below meth c hI H ls locs hM hL hS h1 h2
  subst hp
  exact lv_icmp_ge hI.2.1 hI.2.2.1 hd ht (fun q => kt q p e s m args below meth c hI H ls locs hM hL hS h1 h2) (fun q => kf q p e s m args below meth c hI H ls locs hM hL hS h1 h2)
theorem v_if_gt {x : Int32} {off : Int} {tgt : Nat} (hd : decode K.1 pc = .ok (.ifCond .gt off, 3)) (ht : (pc : Int) + off = (tgt : Int)) (hp : pc + 3 = pc') (kt : 0 < x → V C l K R Po tgt L st S I J u) (kf : ¬ 0 < x → V C l K R Po pc' L st S I J u) : V C l K R Po pc L (.int x :: st) S I J u := by
  intro p e s m args below meth c hI H ls locs hM hL hS h1 h2
  subst hp
  exact lv_if_gt hI.2.1 hI.2.2.1 hd ht (fun q => kt q p e s m args below meth c hI H ls locs hM hL hS h1 h2) (fun q => kf q p e s m args below meth c hI H ls locs hM hL hS h1 h2)
theorem v_icmp_gt {x y : Int32} {off : Int} {tgt : Nat} (hd : decode K.1 pc = .ok (.if_icmp .gt off, 3)) (ht : (pc : Int) + off = (tgt : Int)) (hp : pc + 3 = pc') (kt : y < x → V C l K R Po tgt L st S I J u) (kf : ¬ y < x → V C l K R Po pc' L st S I J u) : V C l K R Po pc L (.int y :: .int x :: st) S I J u := by
  intro p e s m args below meth c hI H ls locs hM hL hS h1 h2
  subst hp
  exact lv_icmp_gt hI.2.1 hI.2.2.1 hd ht (fun q => kt q p e s m args below meth c hI H ls locs hM hL hS h1 h2) (fun q => kf q p e s m args below meth c hI H ls locs hM hL hS h1 h2)
theorem v_if_le {x : Int32} {off : Int} {tgt : Nat} (hd : decode K.1 pc = .ok (.ifCond .le off, 3)) (ht : (pc : Int) + off = (tgt : Int)) (hp : pc + 3 = pc') (kt : x ≤ 0 → V C l K R Po tgt L st S I J u) (kf : ¬ x ≤ 0 → V C l K R Po pc' L st S I J u) : V C l K R Po pc L (.int x :: st) S I J u := by
  intro p e s m args below meth c hI H ls locs hM hL hS h1 h2
  subst hp
  exact lv_if_le hI.2.1 hI.2.2.1 hd ht (fun q => kt q p e s m args below meth c hI H ls locs hM hL hS h1 h2) (fun q => kf q p e s m args below meth c hI H ls locs hM hL hS h1 h2)
theorem v_icmp_le {x y : Int32} {off : Int} {tgt : Nat} (hd : decode K.1 pc = .ok (.if_icmp .le off, 3)) (ht : (pc : Int) + off = (tgt : Int)) (hp : pc + 3 = pc') (kt : x ≤ y → V C l K R Po tgt L st S I J u) (kf : ¬ x ≤ y → V C l K R Po pc' L st S I J u) : V C l K R Po pc L (.int y :: .int x :: st) S I J u := by
  intro p e s m args below meth c hI H ls locs hM hL hS h1 h2
  subst hp
  exact lv_icmp_le hI.2.1 hI.2.2.1 hd ht (fun q => kt q p e s m args below meth c hI H ls locs hM hL hS h1 h2) (fun q => kf q p e s m args below meth c hI H ls locs hM hL hS h1 h2)
theorem v_goto {off : Int} {tgt : Nat} (hd : decode K.1 pc = .ok (.goto off, 3)) (ht : (pc : Int) + off = (tgt : Int)) (k : V C l K R Po tgt L st S I J u) : V C l K R Po pc L st S I J u := by
  intro p e s m args below meth c hI H ls locs hM hL hS h1 h2
  exact lv_goto hI.2.1 hI.2.2.1 hd ht (k p e s m args below meth c hI H ls locs hM hL hS h1 h2)
end Rows
end
section
/-! ===== ROWS OF THE MEMORY: fields and arrays ===== -/
def isO (S : ShT) (a ci : Nat) : Prop := a < S.1 ∧ (S.2.1 a).1 = ci
def isA (S : ShT) (a t n : Nat) : Prop := a < S.1 ∧ S.2.1 a = (t, n)
def FL (own : String) (idx ci k : Nat) : Prop := k < kF ci ∧ ci < 12 ∧ (kT ci k).1 = kN ci ∧ Wd (.fieldLink own idx (kN ci) (kT ci k).2.1 (kT ci k).2.2.1)
def u2 {α : Type} (f : Nat → Nat → α) (a k : Nat) (x : α) : Nat → Nat → α := fun b j => if b = a ∧ j = k then x else f b j
theorem u2_o {α : Type} {f : Nat → Nat → α} {a k : Nat} {x : α} {b : Nat} (h : b ≠ a) : u2 f a k x b = f b := by
  funext j
  simp [u2, h]
theorem u2_s {α : Type} {f : Nat → Nat → α} {a k : Nat} {x : α} : u2 f a k x a k = x := by simp [u2]
theorem u2_n {α : Type} {f : Nat → Nat → α} {a k : Nat} {x : α} {b j : Nat} (h : b ≠ a ∨ j ≠ k) : u2 f a k x b j = f b j := by
  unfold u2
  rw [if_neg (fun q => h.elim (fun g => g q.1) (fun g => g q.2))]
theorem ulay_good (C : String) (T : u_T) (k : Nat) : goodWord (u_lay C T k) = true := by
  unfold u_lay
  split <;> rfl
theorem cel_o {C : CT} {S : ShT} {I : DI} {J : DJ} {k ci : Nat} (h : (S.2.1 k).1 = ci) (hc : ci < 12) : cel C S I J k = .inr (ci, fL C S I J k ci) := by
  unfold cel
  rw [h, if_pos (by omega)]
theorem cel_a {C : CT} {S : ShT} {I : DI} {J : DJ} {k t n : Nat} (h : S.2.1 k = (t, n)) (hc : 32 ≤ t) : cel C S I J k = .inl (cA C t, fA C S I J k t n) := by
  unfold cel
  rw [h, if_neg (by omega)]
theorem cel_eq {C : CT} {S S' : ShT} {I I' : DI} {J J' : DJ} {k : Nat} (h1 : S'.2.1 k = S.2.1 k) (h2 : S'.2.2 k = S.2.2 k) (h3 : I' k = I k) (h4 : J' k = J k) : cel C S' I' J' k = cel C S I J k := by
  unfold cel fL fV fA
  rw [h1, h2, h3, h4]
theorem MR.one {C : CT} {S : ShT} {I : DI} {J : DJ} {H : Heap} (h : MR C S I J H) {a : Nat} (ha : a < S.1) {e : va_E} (he : cel C S I J a = e) : va_P (cD C) vwCl [(c0 C + a, e)] H := by
  intro k q hk
  cases k with
  | zero =>
    cases hk
    rw [← he]
    exact h.2 a ha
  | succ k => cases hk
/-- one cell changes -/
theorem MR.set {C : CT} {S S' : ShT} {I I' : DI} {J J' : DJ} {H H' : Heap} (h : MR C S I J H) {a : Nat} (hz : H'.size = H.size) (ho : ∀ q, q ≠ c0 C + a → H'[q]? = H[q]?) (hn : va_at (cD C) vwCl (c0 C + a, cel C S' I' J' a) H') (hs : S'.1 = S.1) (hk : ∀ k, k < S.1 → k ≠ a → cel C S' I' J' k = cel C S I J k) : MR C S' I' J' H' := by
  refine ⟨by rw [hz, h.1, hs], fun k hkn => ?_⟩
  rw [hs] at hkn
  by_cases e : k = a
  · subst e
    exact hn
  · rw [hk k hkn e]
    exact (h.2 k hkn).kept (ho _ (by show c0 C + k ≠ c0 C + a; omega))
theorem fL_get {C : CT} {S : ShT} {I : DI} {J : DJ} {a ci k : Nat} (hk : k < kF ci) : (fL C S I J a ci)[k]? = some (fV C S I J a k (kY ci k)) := by
  unfold fL
  rw [List.getElem?_map, List.getElem?_range hk]
  rfl
theorem fL_V {C : CT} {S : ShT} {I : DI} {J : DJ} {a ci k : Nat} (hk : k < kF ci) : vp_V (fL C S I J a ci) k = fV C S I J a k (kY ci k) := by
  unfold vp_V
  rw [List.getD_eq_getElem?_getD, fL_get hk]
  rfl
theorem GG.K {C : CT} {l : Launch} {U : State} (h : GG C U) (hC : OKC C l) : va_K (cD C) vwCl [] U := va_K.moved h.1.alike hC.2.2.1
theorem GG.arr {C : CT} {l : Launch} {U : State} (h : GG C U) (hC : OKC C l) {t : Nat} (ht : 32 ≤ t) : ArrOfT U (cA C t) (tgT t) ∧ va_RA U (cA C t) (tgT t) := ⟨arrOfT_moved h.1.alike (hC.2.2.2.1 t ht).1, (hC.2.2.2.1 t ht).2.moved h.1.alike⟩
theorem GG.lays {C : CT} {l : Launch} {U : State} (h : GG C U) (hC : OKC C l) (ci : Nat) (a : Array Value) : ∀ w ∈ u_ws (kN ci) (kT ci) (kF ci), w.before a U = true := by
  intro w hw
  have hg : goodWord w = true := by
    obtain ⟨k, -, rfl⟩ := List.mem_map.mp hw
    exact ulay_good _ _ _
  exact Wd.at ⟨ly_all ci w hw, hg⟩ hC h.1 a
section Put
variable {p : Program} {l : Launch} {e : Env} {R : Room} {s : State} {m : MethodId} {args : Array Value} {below : List Frame} {meth : Method} {c : Code} {H : Heap} {locs : List Loc} {cells slots : Nat} {Q : State → Prop} {D : va_G} {cl : List vw_C} {tys : List (ClassId × FieldType)} {a pc : Nat} {ls : Array Slot} {rest : List Value} {cc : ByteArray}
/-- putfield, with what stays -/
theorem put0 (hexec : p.tables.exec = Jvm.exec) (hb : c.code = cc) {own : String} {ci k index : Nat} (hts : ∀ w ∈ u_ws (kN ci) (kT ci) (kF ci), w.before args s = true) (hown : s.vm.findClass own = some m.cls) (hK : va_K D vwCl tys s) {fs : List Value} (hP : va_at D vwCl (a, .inr (ci, fs)) H) (hc : ci < 12) (hk : k < kF ci) (hself : (kT ci k).1 = kN ci)
    (hlink : (Cond.fieldLink own index (kN ci) (kT ci k).2.1 (kT ci k).2.2.1).before args s = true) (hfin : (kT ci k).2.2.2 = false ∨ ((kT ci k).2.2.2 = true ∧ meth.name = "<init>" ∧ kN ci = own)) {v : Value} (hn : narrow (kY ci k) v = v) (hfit : fits (kY ci k) v = true) (hl : k < fs.length)
    (hdg : decode cc pc = .ok (.putfield index, 3)) (kk : ∀ (H1 : Heap) (i : Nat), va_at D vwCl (a, .inr (ci, fs.set k v)) H1 → H1.size = H.size → (∀ q, q ≠ a → H1[q]? = H[q]?) → W p l e R s m args below meth c H1 (locs ++ [⟨a, i⟩]) cells slots Q (F0 m (pc + 3) ls rest)) : W p l e R s m args below meth c H locs cells slots Q (F0 m pc ls (v :: .ref a :: rest)) := by
  have hvw := vw_at hc
  have hap := va_apart (own := own) hts (fun w h => h) (kY ci) (ky_all ci) (kn_all ci) hK hvw
  obtain ⟨r, h1, cell, q1, q2, q3, q4⟩ := hP
  have hr : r = (kN ci, kT ci, kF ci) := Option.some.inj (h1.symm.trans hvw)
  subst hr
  obtain ⟨hS, hfc, kC, hkC, hkind⟩ := hK.1 ci _ hvw
  obtain ⟨cf, kf, fi, f, hi, hsl⟩ := hS k hk
  have hlay := hts _ (u_in_lay (C := kN ci) (T := kT ci) hk)
  have hst := (u_facts hfc hkC (u_lays hts (fun w h => h) hk) hi).1
  have hi2 : s.fieldFound? (kN ci) (kT ci k).2.1 (kT ci k).2.2.1 = some (cf, kf, fi, f) := by rw [← hself]; exact hi
  have end9 : ∀ H' : Heap, H'[a]? = some (cell.setSlot f.slot v) → va_at D vwCl (a, .inr (ci, fs.set k v)) H' := by
    intro H' e1
    rw [hsl] at e1
    exact ⟨_, hvw, t_OB.to (V := updV (vp_V fs) k v) ⟨_, e1, q2, q3, t_set q4 hap hk v⟩ (fun j _ => vp_updV_set hl v j)⟩
  rcases hfin with hf | ⟨hf, hin2, hdecl⟩
  · unfold u_lay at hlay
    rw [if_neg (by rw [hf]; decide)] at hlay
    have h6 := u_store hfc hkC hkind hlay hi (ky_all ci k hk) hn hfit
    exact W.putK hexec hb (f := f) ⟨hown, hlink, ⟨_, _, _, hi2⟩, hst⟩ (by rw [q2]; exact h6) q1 q3 (by rw [hsl]; exact k2_hasslot (q4 k hk)) rfl rfl hdg fun H' e1 e2 e3 => kk H' _ (end9 H' e1) e2 e3
  · unfold u_lay at hlay
    rw [if_pos hf] at hlay
    have hcf : m.cls = cf := by
      obtain ⟨_, _, c', _, _, _, -, -, hf', -, -, -, hown2, -⟩ := Cond.laysFinal_spec hlay
      have e1 : c' = cf := by have := hi.symm.trans hf'; simp at this; exact this.1.symm
      rw [hself, hdecl] at hown2
      rw [← e1]; exact Option.some.inj (hown.symm.trans hown2)
    have h6 := u_fits hfc hkC hkind (Or.inr hlay) hi (ky_all ci k hk) hn hfit
    exact W.putFinK hexec hb hown hlink hi2 hst hcf hin2 (by rw [q2]; exact h6) q1 q3 (by rw [hsl]; exact k2_hasslot (q4 k hk)) rfl rfl hdg fun H' e1 e2 e3 => kk H' _ (end9 H' e1) e2 e3
end Put
section Rows
variable {C : CT} {l : Launch} {K : KT} {R : RT} {Po : PoT} {pc pc' : Nat} {L L' : LT} {st : List Value} {S S' : ShT} {I I' : DI} {J J' : DJ} {u : Nat × Nat}
theorem v_get {a ci k idx : Nat} (av : Value) (hd : decode K.1 pc = .ok (.getfield idx, 3)) (hf : FL K.2.1 idx ci k) (ho : isO S a ci) (hv : cv C av = fV C S I J a k (kY ci k)) (hp : pc + 3 = pc') (kk : V C l K R Po pc' L (av :: st) S I J u) : V C l K R Po pc L (.ref a :: st) S I J u := by
  intro p e s m args below meth c hI H ls locs hM hL hS h1 h2
  subst hp
  obtain ⟨hC, hx, hb, hr, hml, hown, hlk, hh, hG, hM0, hnm⟩ := id hI
  obtain ⟨f1, f2, f3, f4⟩ := hf
  have hP := hM.one ho.1 (cel_o ho.2 f2)
  refine va_get (D := cD C) (cl := vwCl) (tys := []) (ci := ci) (C := kN ci) (T := kT ci) (N := kF ci) (Ts := u_ws (kN ci) (kT ci) (kF ci)) (ref := kN ci) hx hb (hG.lays hC ci args) (fun w h => h) hown (hG.K hC) hP 0 rfl (vw_at f2) k f1 (f4.at hC hG.1 args) (fun x h => by rw [← f3]; exact h) (fL_get f1) hd ?_
  rw [← hv]
  exact kk p e s m args below meth c hI H ls locs hM hL hS h1 h2
def isI (t : FieldType) : Bool := match t with
  | .int => true
  | .boolean => true
  | _ => false
def isR (t : FieldType) : Bool := match t with
  | .object _ => true
  | .array _ => true
  | _ => false
theorem fV_i {C : CT} {S : ShT} {I : DI} {J : DJ} {a k : Nat} {t : FieldType} (h : isI t = true) : fV C S I J a k t = .int (I a k) := by
  cases t <;> first | rfl | cases h
theorem fV_r {C : CT} {S : ShT} {I : DI} {J : DJ} {a k r : Nat} {t : FieldType} (h : isR t = true) (hr : S.2.2 a k = some r) : fV C S I J a k t = .ref (c0 C + r) := by
  cases t <;> first | (cases h; done) | (simp [fV, fR, hr])
theorem v_geti {a ci k idx : Nat} (hd : decode K.1 pc = .ok (.getfield idx, 3)) (hf : FL K.2.1 idx ci k) (ho : isO S a ci) (hy : isI (kY ci k) = true) (hp : pc + 3 = pc') (kk : V C l K R Po pc' L (.int (I a k) :: st) S I J u) : V C l K R Po pc L (.ref a :: st) S I J u := v_get (.int (I a k)) hd hf ho (fV_i hy).symm hp kk
theorem v_getl {a ci k idx : Nat} (hd : decode K.1 pc = .ok (.getfield idx, 3)) (hf : FL K.2.1 idx ci k) (ho : isO S a ci) (hy : kY ci k = .long) (hp : pc + 3 = pc') (kk : V C l K R Po pc' L (.long (J a k) :: st) S I J u) : V C l K R Po pc L (.ref a :: st) S I J u := v_get (.long (J a k)) hd hf ho (by rw [hy]; rfl) hp kk
theorem v_getr {a ci k idx r : Nat} (hd : decode K.1 pc = .ok (.getfield idx, 3)) (hf : FL K.2.1 idx ci k) (ho : isO S a ci) (hy : isR (kY ci k) = true) (hr : S.2.2 a k = some r) (hp : pc + 3 = pc') (kk : V C l K R Po pc' L (.ref r :: st) S I J u) : V C l K R Po pc L (.ref a :: st) S I J u := v_get (.ref r) hd hf ho (fV_r hy hr).symm hp kk
theorem va_S.put1 {A : Nat → Prop} {H0 H H1 : Heap} {locs : List Loc} {a i : Nat} (h : va_S A H0 H locs) (z : H1.size = H.size) (oq : ∀ q : Nat, q ≠ a → H1[q]? = H[q]?) (ha : A a) : va_S A H0 H1 (locs ++ [⟨a, i⟩]) := h.put z oq ha
theorem v_put {a ci k idx : Nat} {av : Value} (hd : decode K.1 pc = .ok (.putfield idx, 3)) (hf : FL K.2.1 idx ci k) (ho : isO S a ci) (hfin : (kT ci k).2.2.2 = false ∨ ((kT ci k).2.2.2 = true ∧ K.2.2.1 = "<init>" ∧ kN ci = K.2.1)) (hn : narrow (kY ci k) (cv C av) = cv C av) (hfit : fits (kY ci k) (cv C av) = true)
    (hs : S'.1 = S.1) (hk : S'.2.1 = S.2.1) (hc : ∀ b, b ≠ a → S'.2.2 b = S.2.2 b ∧ I' b = I b ∧ J' b = J b) (hv : ∀ j, j < kF ci → fV C S' I' J' a j (kY ci j) = if j = k then cv C av else fV C S I J a j (kY ci j))
    (hp : pc + 3 = pc') (kk : V C l K R Po pc' L st S' I' J' u) : V C l K R Po pc L (av :: .ref a :: st) S I J u := by
  intro p e s m args below meth c hI H ls locs hM hL hS h1 h2
  subst hp
  obtain ⟨hC, hx, hb, hr, hml, hown, hlk, hh, hG, hM0, hnm⟩ := id hI
  obtain ⟨f1, f2, f3, f4⟩ := hf
  have hP := hM.2 a ho.1
  rw [cel_o ho.2 f2] at hP
  have hlen : (fL C S I J a ci).length = kF ci := by simp [fL]
  refine put0 (D := cD C) (tys := []) hx hb (hG.lays hC ci args) hown (hG.K hC) hP f2 f1 f3 (f4.at hC hG.1 args) (by rw [hnm]; exact hfin) hn hfit (by rw [hlen]; exact f1) hd fun H1 i e1 e2 e3 => ?_
  have hS1 := hS.put1 (i := i) e2 e3 (Nat.le_add_right _ _)
  refine kk p e s m args below meth c hI H1 ls _ (hM.set e2 e3 ?_ hs (fun b _ hba => cel_eq (by rw [hk]) (hc b hba).1 (hc b hba).2.1 (hc b hba).2.2)) hL hS1 h1 h2
  rw [cel_o (by rw [hk]; exact ho.2) f2]
  have : (fL C S I J a ci).set k (cv C av) = fL C S' I' J' a ci := by
    apply List.ext_getElem?
    intro j
    by_cases hj : j < kF ci
    · rw [fL_get hj, hv j hj, List.getElem?_set]
      by_cases hjk : j = k
      · subst hjk
        simp [hlen, hj]
      · simp [hjk, Ne.symm hjk, fL_get hj]
    · rw [List.getElem?_eq_none (by rw [List.length_set, hlen]; omega), List.getElem?_eq_none (by simp [fL]; omega)]
  rw [← this]
  exact e1
theorem v_puti {a ci k idx : Nat} {x : Int32} (hd : decode K.1 pc = .ok (.putfield idx, 3)) (hf : FL K.2.1 idx ci k) (ho : isO S a ci) (hfin : (kT ci k).2.2.2 = false) (hy : kY ci k = .int) (hp : pc + 3 = pc') (kk : V C l K R Po pc' L st S (u2 I a k x) J u) : V C l K R Po pc L (.int x :: .ref a :: st) S I J u := by
  refine v_put (av := .int x) hd hf ho (Or.inl hfin) (by rw [hy]; rfl) (by rw [hy]; rfl) rfl rfl (fun b hb => ⟨rfl, u2_o hb, rfl⟩) (fun j hj => ?_) hp kk
  by_cases hjk : j = k
  · subst hjk
    rw [hy, if_pos rfl]
    show Value.int (u2 I a j x a j) = _
    rw [u2_s]
    rfl
  · rw [if_neg hjk]
    unfold fV
    simp only [u2_n (Or.inr hjk)]
theorem v_putz {a ci k idx : Nat} {x : Int32} (hd : decode K.1 pc = .ok (.putfield idx, 3)) (hf : FL K.2.1 idx ci k) (ho : isO S a ci) (hfin : (kT ci k).2.2.2 = false) (hy : kY ci k = .boolean) (hx : x = 0 ∨ x = 1) (hp : pc + 3 = pc') (kk : V C l K R Po pc' L st S (u2 I a k x) J u) : V C l K R Po pc L (.int x :: .ref a :: st) S I J u := by
  refine v_put (av := .int x) hd hf ho (Or.inl hfin) (by rw [hy]; rcases hx with rfl | rfl <;> rfl) (by rw [hy]; rcases hx with rfl | rfl <;> rfl) rfl rfl (fun b hb => ⟨rfl, u2_o hb, rfl⟩) (fun j hj => ?_) hp kk
  by_cases hjk : j = k
  · subst hjk
    rw [hy, if_pos rfl]
    show Value.int (u2 I a j x a j) = _
    rw [u2_s]
    rfl
  · rw [if_neg hjk]
    unfold fV
    simp only [u2_n (Or.inr hjk)]
theorem v_putl {a ci k idx : Nat} {x : Int64} (hd : decode K.1 pc = .ok (.putfield idx, 3)) (hf : FL K.2.1 idx ci k) (ho : isO S a ci) (hfin : (kT ci k).2.2.2 = false) (hy : kY ci k = .long) (hp : pc + 3 = pc') (kk : V C l K R Po pc' L st S I (u2 J a k x) u) : V C l K R Po pc L (.long x :: .ref a :: st) S I J u := by
  refine v_put (av := .long x) hd hf ho (Or.inl hfin) (by rw [hy]; rfl) (by rw [hy]; rfl) rfl rfl (fun b hb => ⟨rfl, rfl, u2_o hb⟩) (fun j hj => ?_) hp kk
  by_cases hjk : j = k
  · subst hjk
    rw [hy, if_pos rfl]
    show Value.long (u2 J a j x a j) = _
    rw [u2_s]
    rfl
  · rw [if_neg hjk]
    unfold fV
    simp only [u2_n (Or.inr hjk)]
/-- a final reference field, in its constructor -/
theorem v_putF {a ci k idx r : Nat} (hd : decode K.1 pc = .ok (.putfield idx, 3)) (hf : FL K.2.1 idx ci k) (ho : isO S a ci) (hfin : (kT ci k).2.2.2 = true) (hin : K.2.2.1 = "<init>") (hown : kN ci = K.2.1) (hy : isR (kY ci k) = true) (hp : pc + 3 = pc') (kk : V C l K R Po pc' L st (S.1, S.2.1, u2 S.2.2 a k (some r)) I J u) : V C l K R Po pc L (.ref r :: .ref a :: st) S I J u := by
  refine v_put (S' := (S.1, S.2.1, u2 S.2.2 a k (some r))) (av := .ref r) hd hf ho (Or.inr ⟨hfin, hin, hown⟩) ?_ ?_ rfl rfl (fun b hb => ⟨u2_o hb, rfl, rfl⟩) (fun j hj => ?_) hp kk
  · generalize kY ci k = t at hy
    cases t <;> first | rfl | cases hy
  · generalize kY ci k = t at hy
    cases t <;> first | rfl | cases hy
  · by_cases hjk : j = k
    · subst hjk
      rw [if_pos rfl, fV_r hy (show (u2 S.2.2 a j (some r)) a j = some r from u2_s)]
      rfl
    · rw [if_neg hjk]
      unfold fV
      simp only [u2_n (Or.inr hjk)]
end Rows
end
section
/-! ===== ROWS OF THE MEMORY: arrays; the script; long compares; switches ===== -/
theorem vp_in_j {i : Int32} {j n : Nat} (hi : i = nI j) (hj : j < n) (hn : n ≤ 1000) : vp_in i n := by
  rw [hi]
  exact vp_in_nI hj (by omega)
theorem cl_j {i : Int32} {j n : Nat} (hi : i = nI j) (hj : j < n) (hn : n ≤ 1000) : i.toNatClampNeg = j := by
  rw [hi]
  exact nI_clamp (by omega)
theorem MR.arr {C : CT} {S : ShT} {I : DI} {J : DJ} {H : Heap} (h : MR C S I J H) {a t n : Nat} (ha : isA S a t n) (ht : 32 ≤ t) : H[c0 C + a]? = some (vp_cell (cA C t) (fA C S I J a t n)) := by
  have hP := h.2 a ha.1
  rw [cel_a ha.2 ht] at hP
  exact hP
theorem MR.arrSet {C : CT} {S S' : ShT} {I I' : DI} {J J' : DJ} {H H' : Heap} (h : MR C S I J H) {a t n : Nat} (ha : isA S a t n) (ht : 32 ≤ t) (hz : H'.size = H.size) (ho : ∀ q, q ≠ c0 C + a → H'[q]? = H[q]?) (hs : S'.1 = S.1) (hk : S'.2.1 = S.2.1) (hc : ∀ b, b ≠ a → S'.2.2 b = S.2.2 b ∧ I' b = I b ∧ J' b = J b) (hn : H'[c0 C + a]? = some (vp_cell (cA C t) (fA C S' I' J' a t n))) : MR C S' I' J' H' := by
  refine h.set hz ho ?_ hs (fun b _ hba => cel_eq (by rw [hk]) (hc b hba).1 (hc b hba).2.1 (hc b hba).2.2)
  rw [cel_a (by rw [hk]; exact ha.2) ht]
  exact hn
theorem vc32 {C : CT} {S : ShT} {I : DI} {J : DJ} {a n : Nat} : vp_cell (cA C 32) (fA C S I J a 32 n) = arrV (cA C 32) n (fun j => .int (I a j)) := rfl
theorem vc33 {C : CT} {S : ShT} {I : DI} {J : DJ} {a n : Nat} : vp_cell (cA C 33) (fA C S I J a 33 n) = arrV (cA C 33) n (fun j => .int (I a j)) := rfl
theorem vc34 {C : CT} {S : ShT} {I : DI} {J : DJ} {a n : Nat} : vp_cell (cA C 34) (fA C S I J a 34 n) = arrV (cA C 34) n (fun j => .long (J a j)) := rfl
theorem fA_q {C : CT} {S : ShT} {I : DI} {J : DJ} {a t n : Nat} (ht : 35 ≤ t) : fA C S I J a t n = (n, .inr (.inr (.inr (.inr (fun j => (S.2.2 a j).map (fun r => c0 C + r)))))) := by
  unfold fA
  rw [if_neg (by omega), if_neg (by omega)]
theorem vcq {C : CT} {S : ShT} {I : DI} {J : DJ} {a t n : Nat} (ht : 35 ≤ t) : vp_cell (cA C t) (fA C S I J a t n) = arrV (cA C t) n (fun j => va_rf ((S.2.2 a j).map (fun r => c0 C + r))) := by
  rw [fA_q ht]
  rfl
section Rows
variable {C : CT} {l : Launch} {K : KT} {R : RT} {Po : PoT} {pc pc' : Nat} {L L' : LT} {st : List Value} {S S' : ShT} {I I' : DI} {J J' : DJ} {u : Nat × Nat}
theorem v_iald {a n j : Nat} {i : Int32} (hd : decode K.1 pc = .ok (.iaload, 1)) (ha : isA S a 32 n) (hi : i = nI j) (hj : j < n) (hn : n ≤ 1000) (hp : pc + 1 = pc') (kk : V C l K R Po pc' L (.int (I a j) :: st) S I J u) : V C l K R Po pc L (.int i :: .ref a :: st) S I J u := by
  intro p e s m args below meth c hI H ls locs hM hL hS h1 h2
  subst hp
  obtain ⟨hC, hx, hb, hr, hml, hown, hlk, hh, hG, hM0, hnm⟩ := id hI
  have hcell := hM.arr ha (by omega)
  rw [vc32] at hcell
  refine W.iald (v := .int (I a j)) hx hb hcell ((hG.arr hC (t := 32) (by omega)).1 n (fun j => .int (I a j))) (fun q => by cases q) (by show ¬ (i < 0 ∨ (arrV _ _ _).slots.size ≤ _); rw [arrV_size]; exact vp_in_j hi hj hn) (by show (arrV _ _ _).slots[_]? = _; rw [cl_j hi hj hn, arrV_read _ _ hj]) rfl rfl hd ?_
  exact kk p e s m args below meth c hI H ls locs hM hL hS h1 h2
theorem v_zald {a n j : Nat} {i : Int32} (hd : decode K.1 pc = .ok (.baload, 1)) (ha : isA S a 33 n) (hi : i = nI j) (hj : j < n) (hn : n ≤ 1000) (hp : pc + 1 = pc') (kk : V C l K R Po pc' L (.int (I a j) :: st) S I J u) : V C l K R Po pc L (.int i :: .ref a :: st) S I J u := by
  intro p e s m args below meth c hI H ls locs hM hL hS h1 h2
  subst hp
  obtain ⟨hC, hx, hb, hr, hml, hown, hlk, hh, hG, hM0, hnm⟩ := id hI
  have hK : va_K (cD C) vwCl [(cA C 33, .boolean)] s := ⟨(hG.K hC).1, fun k q hk => by
    cases k with
    | zero => cases hk; exact hG.arr hC (t := 33) (by omega)
    | succ k => cases hk⟩
  have hP := hM.one ha.1 (cel_a ha.2 (by omega))
  refine va_zald (D := cD C) (cl := vwCl) (tys := [(cA C 33, .boolean)]) (n := n) (f := I a) hx hb hK hP 0 0 rfl rfl (vp_in_j hi hj hn) hd ?_
  rw [cl_j hi hj hn]
  exact kk p e s m args below meth c hI H ls locs hM hL hS h1 h2
theorem v_lald {a n j : Nat} {i : Int32} (hd : decode K.1 pc = .ok (.laload, 1)) (ha : isA S a 34 n) (hi : i = nI j) (hj : j < n) (hn : n ≤ 1000) (hp : pc + 1 = pc') (kk : V C l K R Po pc' L (.long (J a j) :: st) S I J u) : V C l K R Po pc L (.int i :: .ref a :: st) S I J u := by
  intro p e s m args below meth c hI H ls locs hM hL hS h1 h2
  subst hp
  obtain ⟨hC, hx, hb, hr, hml, hown, hlk, hh, hG, hM0, hnm⟩ := id hI
  have hK : va_K (cD C) vwCl [(cA C 34, .long)] s := ⟨(hG.K hC).1, fun k q hk => by
    cases k with
    | zero => cases hk; exact hG.arr hC (t := 34) (by omega)
    | succ k => cases hk⟩
  have hP := hM.one ha.1 (cel_a ha.2 (by omega))
  refine va_lald (D := cD C) (cl := vwCl) (tys := [(cA C 34, .long)]) (n := n) (f := J a) hx hb hK hP 0 0 rfl rfl (vp_in_j hi hj hn) hd ?_
  rw [cl_j hi hj hn]
  exact kk p e s m args below meth c hI H ls locs hM hL hS h1 h2
theorem tg_ref {t : Nat} (ht : 35 ≤ t) : (tgT t).isReference = true := by
  unfold tgT
  split <;> first | omega | rfl
theorem v_aald {a t n j r : Nat} {i : Int32} (hd : decode K.1 pc = .ok (.aaload, 1)) (ha : isA S a t n) (ht : 35 ≤ t) (hi : i = nI j) (hj : j < n) (hn : n ≤ 1000) (hr : S.2.2 a j = some r) (hp : pc + 1 = pc') (kk : V C l K R Po pc' L (.ref r :: st) S I J u) : V C l K R Po pc L (.int i :: .ref a :: st) S I J u := by
  intro p e s m args below meth c hI H ls locs hM hL hS h1 h2
  subst hp
  obtain ⟨hC, hx, hb, hrt, hml, hown, hlk, hh, hG, hM0, hnm⟩ := id hI
  have hcell := hM.arr ha (by omega)
  rw [vcq ht] at hcell
  refine W.aald (v := .ref (c0 C + r)) (ty := tgT t) hx hb hcell ((hG.arr hC (t := t) (by omega)).1 n (fun j => va_rf ((S.2.2 a j).map (fun r => c0 C + r)))) (tg_ref ht) (fun q => by cases q) (by show ¬ (i < 0 ∨ (arrV _ _ _).slots.size ≤ _); rw [arrV_size]; exact vp_in_j hi hj hn) (by show (arrV _ _ _).slots[_]? = _; rw [cl_j hi hj hn, arrV_read _ _ hj]; simp only [hr]; rfl) rfl rfl hd ?_
  exact kk p e s m args below meth c hI H ls locs hM hL hS h1 h2
theorem v_iast {a n j : Nat} {i x : Int32} (hd : decode K.1 pc = .ok (.iastore, 1)) (ha : isA S a 32 n) (hi : i = nI j) (hj : j < n) (hn : n ≤ 1000) (hp : pc + 1 = pc') (kk : V C l K R Po pc' L st S (u2 I a j x) J u) : V C l K R Po pc L (.int x :: .int i :: .ref a :: st) S I J u := by
  intro p e s m args below meth c hI H ls locs hM hL hS h1 h2
  subst hp
  obtain ⟨hC, hx, hb, hr, hml, hown, hlk, hh, hG, hM0, hnm⟩ := id hI
  refine W.iast hx hb (hM.arr ha (by omega)) ((hG.arr hC (t := 32) (by omega)).1 n (fun j => .int (I a j))) (fun q => by cases q) (by show ¬ (i < 0 ∨ (arrV _ _ _).slots.size ≤ _); rw [arrV_size]; exact vp_in_j hi hj hn) rfl rfl hd fun H1 e1 e2 e3 => ?_
  refine kk p e s m args below meth c hI H1 ls _ (hM.arrSet ha (by omega) e2 e3 rfl rfl (fun b hb => ⟨rfl, u2_o hb, rfl⟩) ?_) hL (hS.put e2 e3 (Nat.le_add_right _ _)) h1 h2
  rw [e1, cl_j hi hj hn]
  rw [vc32, vc32, arrV_store]
  congr 2
  funext q
  by_cases hq : q = j
  · subst hq
    simp [updV, u2_s]
  · simp [updV, hq, u2_n (Or.inr hq)]
theorem v_zast {a n j : Nat} {i x : Int32} (hd : decode K.1 pc = .ok (.bastore, 1)) (ha : isA S a 33 n) (hi : i = nI j) (hj : j < n) (hn : n ≤ 1000) (hx01 : x = 0 ∨ x = 1) (hp : pc + 1 = pc') (kk : V C l K R Po pc' L st S (u2 I a j x) J u) : V C l K R Po pc L (.int x :: .int i :: .ref a :: st) S I J u := by
  intro p e s m args below meth c hI H ls locs hM hL hS h1 h2
  subst hp
  obtain ⟨hC, hx, hb, hr, hml, hown, hlk, hh, hG, hM0, hnm⟩ := id hI
  refine W.zast hx hb (hM.arr ha (by omega)) ((hG.arr hC (t := 33) (by omega)).1 n (fun j => .int (I a j))) (fun q => by cases q) (by show ¬ (i < 0 ∨ (arrV _ _ _).slots.size ≤ _); rw [arrV_size]; exact vp_in_j hi hj hn) rfl rfl hd fun H1 e1 e2 e3 => ?_
  refine kk p e s m args below meth c hI H1 ls _ (hM.arrSet ha (by omega) e2 e3 rfl rfl (fun b hb => ⟨rfl, u2_o hb, rfl⟩) ?_) hL (hS.put e2 e3 (Nat.le_add_right _ _)) h1 h2
  have hnr : narrow .boolean (.int x) = .int x := by rcases hx01 with rfl | rfl <;> rfl
  rw [e1, cl_j hi hj hn, hnr]
  rw [vc33, vc33, arrV_store]
  congr 2
  funext q
  by_cases hq : q = j
  · subst hq
    simp [updV, u2_s]
  · simp [updV, hq, u2_n (Or.inr hq)]
theorem v_last {a n j : Nat} {i : Int32} {x : Int64} (hd : decode K.1 pc = .ok (.lastore, 1)) (ha : isA S a 34 n) (hi : i = nI j) (hj : j < n) (hn : n ≤ 1000) (hp : pc + 1 = pc') (kk : V C l K R Po pc' L st S I (u2 J a j x) u) : V C l K R Po pc L (.long x :: .int i :: .ref a :: st) S I J u := by
  intro p e s m args below meth c hI H ls locs hM hL hS h1 h2
  subst hp
  obtain ⟨hC, hx, hb, hr, hml, hown, hlk, hh, hG, hM0, hnm⟩ := id hI
  refine W.last hx hb (hM.arr ha (by omega)) ((hG.arr hC (t := 34) (by omega)).1 n (fun j => .long (J a j))) (fun q => by cases q) (by show ¬ (i < 0 ∨ (arrV _ _ _).slots.size ≤ _); rw [arrV_size]; exact vp_in_j hi hj hn) rfl rfl hd fun H1 e1 e2 e3 => ?_
  refine kk p e s m args below meth c hI H1 ls _ (hM.arrSet ha (by omega) e2 e3 rfl rfl (fun b hb => ⟨rfl, rfl, u2_o hb⟩) ?_) hL (hS.put e2 e3 (Nat.le_add_right _ _)) h1 h2
  rw [e1, cl_j hi hj hn]
  rw [vc34, vc34, arrV_store]
  congr 2
  funext q
  by_cases hq : q = j
  · subst hq
    simp [updV, u2_s]
  · simp [updV, hq, u2_n (Or.inr hq)]
theorem v_aast {a v t n j ci : Nat} {i : Int32} (hd : decode K.1 pc = .ok (.aastore, 1)) (ha : isA S a t n) (ht : 35 ≤ t) (hv : isO S v ci) (hc : ci < 12) (htc : tgT t = .object (kN ci)) (hi : i = nI j) (hj : j < n) (hn : n ≤ 1000) (hp : pc + 1 = pc') (kk : V C l K R Po pc' L st (S.1, S.2.1, u2 S.2.2 a j (some v)) I J u) : V C l K R Po pc L (.ref v :: .int i :: .ref a :: st) S I J u := by
  intro p e s m args below meth c hI H ls locs hM hL hS h1 h2
  subst hp
  obtain ⟨hC, hx, hb, hr, hml, hown, hlk, hh, hG, hM0, hnm⟩ := id hI
  have hcell := hM.arr ha (by omega)
  rw [vcq ht] at hcell
  have hPv := hM.2 v hv.1
  rw [cel_o hv.2 hc] at hPv
  obtain ⟨r', hr', cellV, g1, g2, g3, -⟩ := hPv
  have hcls := ((hG.K hC).1 ci _ (vw_at hc)).2
  have hRA := (hG.arr hC (t := t) (by omega)).2
  rw [htc] at hRA
  obtain ⟨kA, comp, k1, k2, k3, -⟩ := hRA
  have hcomp : comp = (cD C).1 ci := Option.some.inj (k3.symm.trans hcls.1)
  subst hcomp
  obtain ⟨kC, hkC, -⟩ := hcls.2
  have hin := vp_in_j hi hj hn
  refine W.aast hx hb hcell (fun q h => by cases h) (fun h => by cases h) k1 k2 rfl hkC ⟨fun q => hin (Or.inl q), by show _ < (arrV _ _ _).slots.size; rw [arrV_size, cl_j hi hj hn]; exact hj⟩ g1 (fun q h => by rw [g3] at h; cases h) (by rw [g2]; exact hkC) (by rw [g2]; exact va_assign hcls) rfl rfl hd fun H1 e1 e2 e3 => ?_
  refine kk p e s m args below meth c hI H1 ls _ (hM.arrSet (S' := (S.1, S.2.1, u2 S.2.2 a j (some v))) ha (by omega) e2 e3 rfl rfl (fun b hb => ⟨u2_o hb, rfl, rfl⟩) ?_) hL (hS.put e2 e3 (Nat.le_add_right _ _)) h1 h2
  rw [e1, cl_j hi hj hn, vcq ht, arrV_store]
  congr 2
  funext q
  by_cases hq : q = j
  · subst hq
    simp [updV, u2_s, va_rf]
  · simp [updV, hq, u2_n (Or.inr hq)]
/-- the script: its length, its ints -/
theorem v_slen {z : Nat} (hd : decode K.1 pc = .ok (.arraylength, 1)) (hp : pc + 1 = pc') (kk : V C l K R Po pc' L (.int (nI (cN C)) :: st) S I J u) : V C l K R Po pc L (.retAddr z :: st) S I J u := by
  intro p e s m args below meth c hI H ls locs hM hL hS h1 h2
  subst hp
  obtain ⟨hC, hx, hb, hr, hml, hown, hlk, hh, hG, ⟨S0, I0, J0, hM0⟩, hnm⟩ := id hI
  have hX : va_X (cB C) (cN C) (cX C) s s.heap := (va_X.moved hG.1.alike hC.2.2.2.2.1).kept (hG.2 _ hC.2.2.2.2.2.1)
  have hbl : cB C < s.heap.size := by have h := hM0.1; have h' := hC.2.2.2.2.2.1; omega
  refine va_slen hx hb hX hbl (Nat.not_le.mpr hC.2.2.2.2.2.1) hS hd ?_
  exact kk p e s m args below meth c hI H ls locs hM hL hS h1 h2
theorem v_sld {z j : Nat} {i : Int32} (hd : decode K.1 pc = .ok (.iaload, 1)) (hi : i = nI j) (hj : j < cN C) (hn : cN C ≤ 2560) (hp : pc + 1 = pc') (kk : V C l K R Po pc' L (.int (cX C j) :: st) S I J u) : V C l K R Po pc L (.int i :: .retAddr z :: st) S I J u := by
  intro p e s m args below meth c hI H ls locs hM hL hS h1 h2
  subst hp
  obtain ⟨hC, hx, hb, hr, hml, hown, hlk, hh, hG, ⟨S0, I0, J0, hM0⟩, hnm⟩ := id hI
  have hX : va_X (cB C) (cN C) (cX C) s s.heap := (va_X.moved hG.1.alike hC.2.2.2.2.1).kept (hG.2 _ hC.2.2.2.2.2.1)
  have hbl : cB C < s.heap.size := by have h := hM0.1; have h' := hC.2.2.2.2.2.1; omega
  refine va_sld hx hb hX hbl (Nat.not_le.mpr hC.2.2.2.2.2.1) hS (i := i) (by rw [hi]; exact vp_in_nI hj (by omega)) hd ?_
  rw [show i.toNatClampNeg = j by rw [hi]; exact nI_clamp (by omega)]
  exact kk p e s m args below meth c hI H ls locs hM hL hS h1 h2
theorem v_lcmp {x y : Int64} (hd : decode K.1 pc = .ok (.lcmp, 1)) (hp : pc + 1 = pc') (kk : V C l K R Po pc' L (.int (lg_cmp x y) :: st) S I J u) : V C l K R Po pc L (.long y :: .long x :: st) S I J u := by
  intro p e s m args below meth c hI H ls locs hM hL hS h1 h2
  subst hp
  exact W.lcmp hI.2.1 hI.2.2.1 hd (kk p e s m args below meth c hI H ls locs hM hL hS h1 h2)
theorem v_ldc2 {idx : Nat} {v : Int64} (hd : decode K.1 pc = .ok (.ldc2_w idx, 3)) (hw : Wd (.constantLong K.2.1 idx v)) (hp : pc + 3 = pc') (kk : V C l K R Po pc' L (.long v :: st) S I J u) : V C l K R Po pc L st S I J u := by
  intro p e s m args below meth c hI H ls locs hM hL hS h1 h2
  subst hp
  obtain ⟨hC, hx, hb, hr, hml, hown, hlk, hh, hG, hM0, hnm⟩ := id hI
  exact lv_ldc2 hx hb hown (hw.at hC hG.1 args) hd (kk p e s m args below meth c hI H ls locs hM hL hS h1 h2)
theorem v_tabO {dflt lo hi : Int} {offs : Array Int} {len : Nat} {x : Int32} {tgt : Nat} (hd : decode K.1 pc = .ok (.tableswitch dflt lo hi offs, len)) (h : x.toInt < lo ∨ hi < x.toInt) (ht : (pc : Int) + dflt = (tgt : Int)) (kk : V C l K R Po tgt L st S I J u) : V C l K R Po pc L (.int x :: st) S I J u := by
  intro p e s m args below meth c hI H ls locs hM hL hS h1 h2
  exact lv_tableOut hI.2.1 hI.2.2.1 hd h ht (kk p e s m args below meth c hI H ls locs hM hL hS h1 h2)
theorem v_tabI {dflt lo hi : Int} {offs : Array Int} {len : Nat} {x : Int32} {off : Int} {tgt : Nat} (hd : decode K.1 pc = .ok (.tableswitch dflt lo hi offs, len)) (h1 : ¬ x.toInt < lo) (h2 : ¬ hi < x.toInt) (ho : offs[(x.toInt - lo).toNat]? = some off) (ht : (pc : Int) + off = (tgt : Int)) (kk : V C l K R Po tgt L st S I J u) : V C l K R Po pc L (.int x :: st) S I J u := by
  intro p e s m args below meth c hI H ls locs hM hL hS g1 g2
  exact lv_tableIn hI.2.1 hI.2.2.1 hd h1 h2 ho ht (kk p e s m args below meth c hI H ls locs hM hL hS g1 g2)
end Rows
end
section
/-! ===== A METHOD'S END, ITS CONTRACT ===== -/
theorem GG.on {C : CT} {s t : State} {H : Heap} {locs : List Loc} (h : GG C s) (hS : va_S (AX C) s.heap H locs) (hz : c0 C ≤ s.heap.size) (ht : t.heap = H) (hW : s.WarmedH t.vm) : GG C t :=
  ⟨State.WarmedH.trans h.1 hW, fun q hq => by rw [ht, hS.2.1 q (Nat.lt_of_lt_of_le hq hz) (Nat.not_le.mpr hq)]; exact h.2 q hq⟩
theorem MR.z {C : CT} {S : ShT} {I : DI} {J : DJ} {H : Heap} (h : MR C S I J H) : c0 C ≤ H.size := by rw [h.1]; exact Nat.le_add_right _ _
section WM
variable {p : Program} {l : Launch} {e : Env} {R : Room} {s : State} {m : MethodId} {args : Array Value} {below : List Frame} {meth : Method} {c : Code} {H : Heap} {locs : List Loc} {cells slots : Nat} {Q Q' : State → Prop}
theorem W.mono {g : JFrame} (h : ∀ t, Q t → Q' t) (w : W p l e R s m args below meth c H locs cells slots Q g) : W p l e R s m args below meth c H locs cells slots Q' g := fun T hT X => by
  obtain ⟨t, a, b⟩ := w T hT X
  exact ⟨t, a, h t b⟩
end WM
section Rows
variable {C : CT} {l : Launch} {K : KT} {R : RT} {Po : PoT} {pc pc' : Nat} {L L' : LT} {st : List Value} {S S' : ShT} {I I' : DI} {J J' : DJ} {u : Nat × Nat}
/-- any of the returns -/
theorem v_end {r : Option Value} (hp : Po (.inl r) S I J) (k : ∀ (p : Program) (e : Env) (s : State) (m : MethodId) (args : Array Value) (below : List Frame) (meth : Method) (c : Code), Iv C l K p s m meth c → ∀ (H : Heap) (ls : Array Slot) (locs : List Loc) (x y : Nat) (Qc : Array Value → State → Outcome → State → Prop), (∀ t : State, t.heap = H → s.WarmedH t.vm → Qc args s (.returned (r.map (cv C))) t) → (∀ q ∈ locs, c0 C ≤ q.base) →
    W p l e (RM R) s m args below meth c H locs x y (MQ below Qc args s x y (fun q => c0 C ≤ q)) (F0 m pc ls (st.map (cv C)))) : V C l K R Po pc L st S I J u := by
  intro p e s m args below meth c hI H ls locs hM hL hS h1 h2
  obtain ⟨hC, hx, hb, hr, hml, hown, hlk, hh, hG, ⟨S0, I0, J0, hM0⟩, hnm⟩ := id hI
  refine W.widen (k := R.2.1) (n := R.2.2) h1 h2 ?_
  refine W.mono ?_ (k p e s m args below meth c hI H ls locs R.2.1 R.2.2 (fun _ _ o t => o = .returned (r.map (cv C)) ∧ t.heap = H) (fun t ht _ => ⟨rfl, ht⟩) hS.2.2)
  rintro t ⟨o, a1, a2, ⟨rfl, a3⟩, Lc, ⟨-, hW, hsm⟩, a5⟩
  exact ⟨_, a1, a2, ⟨.inl r, S, I, J, hp, by rw [a3]; exact hM, hG.on hS hM0.z a3 hW, rfl⟩, Lc, hW, hsm, a5⟩
theorem v_iret {x : Int32} (hd : decode K.1 pc = .ok (.ireturn, 1)) (ht : K.2.2.2.2.2 = some .int) (hp : Po (.inl (some (.int x))) S I J) : V C l K R Po pc L [.int x] S I J u :=
  v_end hp (fun p e s m args below meth c hI H ls locs _ _ Qc hq hf => by
    have hlk : meth.locks = false := hI.2.2.2.2.2.2.1
    exact W.iret hI.2.1 hI.2.2.1 (hI.2.2.2.1.trans ht) hq hf hd)
theorem v_zret {x : Int32} (hd : decode K.1 pc = .ok (.ireturn, 1)) (ht : K.2.2.2.2.2 = some .boolean) (hx : x = 0 ∨ x = 1) (hp : Po (.inl (some (.int x))) S I J) : V C l K R Po pc L [.int x] S I J u :=
  v_end hp (fun p e s m args below meth c hI H ls locs _ _ Qc hq hf => by
    have hlk : meth.locks = false := hI.2.2.2.2.2.2.1
    have hn : narrow .boolean (.int x) = .int x := by rcases hx with rfl | rfl <;> rfl
    intro T hT X
    obtain ⟨fs, hret, hrun, hended, hW, hframe⟩ := X.leave (v := some (.int x)) (fun h => by rw [hI.2.2.2.1.trans ht] at h; cases h)
    have hmeth' : T.vm.method? m = some meth := X.method'
    refine ⟨T.setFrames fs, ?_, .returned (some (.int x)), hrun, hended, hq _ hT hW, locs, ⟨⟨_, rfl⟩, hW, hframe⟩, hf⟩
    have hexec := hI.2.1
    have hb := hI.2.2.1
    have hr := hI.2.2.2.1.trans ht
    show Steps p.tables e below (T.setTop (F0 m pc ls [.int x])) (T.setFrames fs)
    jvm_step X.here [X.here.top, hexec, hb, hd, hmeth', hr, hn]
    (try refine ⟨rfl, ?_⟩); (try refine ⟨rfl, ?_⟩)
    first | (intro acts; rw [hret _ acts rfl rfl rfl]) | rw [hret _ _ rfl rfl rfl]
    exact Steps.refl _)
theorem v_vret (hd : decode K.1 pc = .ok (.return_, 1)) (ht : K.2.2.2.2.2 = none) (hp : Po (.inl none) S I J) : V C l K R Po pc L [] S I J u :=
  v_end hp (fun p e s m args below meth c hI H ls locs _ _ Qc hq hf => by
    have hlk : meth.locks = false := hI.2.2.2.2.2.2.1
    exact W.vret hI.2.1 hI.2.2.1 (hI.2.2.2.1.trans ht) hq hf hd)
theorem v_lret {x : Int64} (hd : decode K.1 pc = .ok (.lreturn, 1)) (ht : K.2.2.2.2.2 = some .long) (hp : Po (.inl (some (.long x))) S I J) : V C l K R Po pc L [.long x] S I J u :=
  v_end hp (fun p e s m args below meth c hI H ls locs _ _ Qc hq hf => by
    have hlk : meth.locks = false := hI.2.2.2.2.2.2.1
    exact W.lret hI.2.1 hI.2.2.1 (hI.2.2.2.1.trans ht) hq hf hd)
end Rows
end
section
/-! ===== CONTRACTS AND CALLS ===== -/
def cwd (K : KT) (y : MethodName) : Cond := match K.2.2.2.1 with
  | [] => .code y K.1 K.2.2.2.2.1 K.2.2.2.2.2
  | h :: t => .codeWith y K.1 K.2.2.2.2.1 K.2.2.2.2.2 (h :: t)
/-- the card K is that of the method y: its word stands in the tables, its class is initialised there -/
def Cd (K : KT) (y : MethodName) : Prop := K.2.1 = y.cls ∧ K.2.2.1 = y.name ∧ plainName y.cls = true ∧ (y.cls ≠ "java/lang/invoke/MethodHandle" ∧ y.cls ≠ "java/lang/invoke/VarHandle") ∧ Wd (cwd K y) ∧ Wd (.initialized y.cls) ∧ K.2.2.2.2.1 ≤ 17
theorem cwd_spec {K : KT} {y : MethodName} {a : Array Value} {s : State} {m : MethodId} (hn : s.methodNamed? y = some m) (h : (cwd K y).before a s = true) :
    ∃ meth c, s.vm.method? m = some meth ∧ meth.code = some c ∧ c.code = K.1 ∧ c.maxLocals = K.2.2.2.2.1 ∧ meth.sig.returnType = K.2.2.2.2.2 ∧ meth.locks = false ∧ c.exceptionTable.toList.map (fun x => (x.startPc, x.endPc, x.handlerPc, x.catchType)) = K.2.2.2.1 ∧ parseMethodDescriptor y.desc = some meth.sig := by
  unfold cwd at h
  split at h
  · rename_i hh
    obtain ⟨meth, c, h1, h2, h3, h4, h5, h6, h7, h8⟩ := Cond.code_spec hn h
    refine ⟨meth, c, h1, h2, h3, h4, h5, h6, ?_, h8⟩
    rw [hh]
    have : c.exceptionTable.toList = [] := by
      have h9 : c.exceptionTable = #[] := by simpa using h7
      rw [h9]
    rw [this]
    rfl
  · rename_i a1 a2 hh
    obtain ⟨m', meth, c, g0, h1, h2, h3, h4, h5, h6, h7, h8⟩ := Cond.codeWith_spec h
    cases hn.symm.trans g0
    refine ⟨meth, c, h1, h2, h3, h4, h6, h7, ?_, h8⟩
    rw [hh]
    exact h5
theorem cwd_named {K : KT} {y : MethodName} {a : Array Value} {s : State} (h : (cwd K y).before a s = true) : ∃ m, s.methodNamed? y = some m := by
  unfold cwd at h
  split at h
  · exact Cond.code_named h
  · obtain ⟨m', meth, c, g0, -⟩ := Cond.codeWith_spec h
    exact ⟨m', g0⟩
/-- THE CONTRACT of the method y with these arguments, from this memory: it comes to an end with Po, within the room R -/
def Sp (C : CT) (l : Launch) (K : KT) (y : MethodName) (R : RT) (as : List Value) (S : ShT) (I : DI) (J : DJ) (Po : PoT) : Prop :=
  MetFree l y (headSpec [cwd K y] (RM R)) (fun a U => a = (as.map (cv C)).toArray ∧ MR C S I J U.heap ∧ GG C U) (fun _ _ _ _ _ => True) (fun _ st o t => QX C Po o t ∧ EX C R st t)
theorem lv_args_map (C : CT) : ∀ (as : List Value) (i : Nat), lv_args i (as.map (cv C)) = lC C (lv_args i as)
  | [], i => rfl
  | v :: r, i => by
    have h := lv_args_map C r (if v.category = 2 then i + 2 else i + 1)
    simp only [List.map_cons, lv_args, cv_cat, lC] at h ⊢
    rw [h]
    try rfl
theorem lg_sl_len (C : CT) : ∀ as : List Value, (lg_sl (as.map (cv C))).length = (lg_sl as).length
  | [] => rfl
  | v :: r => by
    have h := lg_sl_len C r
    cases v <;> simp_all [lg_sl, cv] <;> rfl
theorem Sp.of {C : CT} {l : Launch} {K : KT} {y : MethodName} {R : RT} {as : List Value} {S : ShT} {I : DI} {J : DJ} {Po : PoT} (hC : OKC C l) (hK : Cd K y) (hlen : (lg_sl as).length ≤ K.2.2.2.2.1) (h : V C l K R Po 0 (lv_args 0 as) [] S I J (0, 0)) : Sp C l K y R as S I J Po := by
  obtain ⟨k1, k2, k3, k4, k5, k6, k7⟩ := hK
  refine MetFree.of_bodyS (code := K.1) (maxLocals := K.2.2.2.2.1) (ret := K.2.2.2.2.2) k3 ?_ ?_
  · intro args s m hp hn
    obtain ⟨meth, c, h1, h2, h3, h4, h5, h6, -, -⟩ := cwd_spec hn (atoms_spec (ws := [cwd K y]) hp _ List.mem_cons_self)
    exact ⟨meth, c, h1, h2, h3, h4, h5, h6⟩
  · intro p e s m args below meth c s₁ B hml hP _
    obtain ⟨rfl, hM, hG⟩ := hP
    have hh0 : s₁.heap = s.heap := by rw [B.state]; rfl
    obtain ⟨meth', c', h1, h2, h3, h4, h5, h6, h7, -⟩ := cwd_spec B.named (atoms_spec (ws := [cwd K y]) B.pre _ List.mem_cons_self)
    cases B.method.symm.trans h1
    cases (Stand.of_body B).code.symm.trans h2
    have hI : Iv C l K p s m meth c := ⟨hC, B.exec, B.bytes, B.returns, hml, by rw [k1]; exact findClass_of_methodNamed B.named, B.notSynchronized, h7, hG, ⟨S, I, J, hM⟩, by rw [k2]; exact (name_of_methodNamed B.named B.method).1⟩
    have hl := lv_entry (as.map (cv C)) (n := K.2.2.2.2.1) (by rw [lg_sl_len]; exact hlen)
    have w := h p e s m (as.map (cv C)).toArray below meth c hI s.heap _ [] hM (by rw [lv_args_map] at hl; exact hl) va_S.rf (Nat.zero_le _) (Nat.zero_le _)
    obtain ⟨t, a1, o, b1, b2, b3⟩ := w s₁ hh0 (Stand.of_body B)
    refine ⟨t, o, ?_, b1, b2, b3⟩
    rw [lg_entry_eq]
    exact a1
section Run
variable {C : CT} {l : Launch} {K K' : KT} {R R' : RT} {Po : PoT} {S S' : ShT} {I I' : DI} {J J' : DJ} {u : Nat × Nat}
variable {p : Program} {e : Env} {s : State} {m : MethodId} {args : Array Value} {below : List Frame} {meth : Method} {c : Code} {T : State} {locs : List Loc} {uc us : Nat} {y : MethodName} {as : List Value}
/-- the callee's run: it comes back, or it throws -/
theorem Sp.run (X : Stand p l e (RM R) s m args below meth c T locs uc us) (hC : OKC C l) (hK : Cd K' y) (hSp : Sp C l K' y R' as S I J Po) (hM : MR C S I J T.heap) (hG : GG C T) {mk : MethodId} (hn : T.methodNamed? y = some mk)
    {g : JFrame} (hg : g.method = m) (hsize : g.locals.size = c.maxLocals) {ig : Instr} (hdg : decode c.code g.pc = .ok (ig, 3)) (hW : 2 * g.monitorRoom + (g.stack.map fun v => v.category).sum ≤ 8) (hfr : R'.1 + 1 ≤ R.1) (hcl : uc + R'.2.1 ≤ R.2.1) (hsl : us + R'.2.2 ≤ R.2.2) :
    ∃ (r : RsT) (S' : ShT) (I' : DI) (J' : DJ) (T' : State) (Lc : List Loc), Po r S' I' J' ∧ MR C S' I' J' T'.heap ∧ GG C T' ∧ Stand p l e (RM R) s m args below meth c T' (locs ++ Lc) (uc + R'.2.1) (us + R'.2.2) ∧ (∀ q ∈ Lc, c0 C ≤ q.base) ∧
      match r with
      | .inl v => Steps p.tables e below (doInvoke e (T.setTop g) [] mk (as.map (cv C)).toArray).1 (T'.setTop { g with pc := g.pc + 3, stack := (v.map (cv C)).toList ++ g.stack })
      | .inr ci => ∃ k, S'.1 = k + 1 ∧ (S'.2.1 k).1 = ci ∧ Steps p.tables e below (doInvoke e (T.setTop g) [] mk (as.map (cv C)).toArray).1 ((T'.setTop g).pushFrame (.throwing (c0 C + k))) := by
  obtain ⟨k1, k2, k3, k4, k5, k6, k7⟩ := hK
  have hcw : (cwd K' y).before (as.map (cv C)).toArray T = true := k5.at hC hG.1 _
  obtain ⟨methY, cY, hmY, hcY, -, hlY, -, -, -, -⟩ := cwd_spec hn hcw
  obtain ⟨kY, hkY, -⟩ := className_of_methodNamed hn
  have hinitY : kY.init = .initialized := Cond.initialized_spec (findClass_of_methodNamed hn) hkY (k6.at hC hG.1 (as.map (cv C)).toArray)
  have h : At T g.method c below := by rw [hg]; exact X.here
  have happ : (headSpec [cwd K' y] (RM R')).appliesLoose y e.platform (T.calling g mk (as.map (cv C)).toArray) = true :=
    Spec.appliesLoose_calling (g := g) h hdg hn hkY hinitY
      (X.room_calling (g := g) (R' := RM R') hsize hmY hcY hfr (by rw [hlY]; show _ + _ + 36 * R'.1 ≤ 36 * R.1; omega) hcl hsl) (atoms_intro fun w hw => by
        rw [List.mem_singleton.mp hw]
        exact hcw)
  obtain ⟨mid, hmid⟩ := h.above
  have hfr2 : (T.setTop g).frames = (.java g :: mid) ++ below := by rw [State.frames_setTop' g h.top, hmid]; rfl
  have hcall : ∃ o s₂, Steps p.tables e below (doInvoke e (T.setTop g) [] mk (as.map (cv C)).toArray).1 s₂ ∧ s₂.status = .running ∧ Ended s₂ (T.setTop g).frames o ∧ (QX C Po o s₂ ∧ EX C R' (T.calling g mk (as.map (cv C)).toArray) s₂) :=
    Steps.callFree hSp p X.admits X.cas X.clock (acts := []) hfr2 happ ⟨rfl, hM, hG⟩ trivial
  obtain ⟨o, s₂, hsteps, -, hend, ⟨r, S', I', J', q1, q2, q3, q4⟩, Lc, e1, e2, e3⟩ := hcall
  rw [State.frames_setTop' g h.top, X.tail] at hend
  cases r with
  | inl v =>
    have q4 : o = .returned (v.map (cv C)) := q4
    subst q4
    obtain ⟨T', X', hW', hB, rfl⟩ := X.outOf hg hdg hend e1 e2
    refine ⟨.inl v, S', I', J', T', Lc, q1, ?_, ?_, X', e3, hsteps⟩
    · exact q2
    · exact q3
  | inr ci =>
    obtain ⟨k, g1, g2, rfl⟩ := q4
    obtain ⟨T', X', hW', hB, rfl⟩ := X.outOfThrown hg hend e1 e2
    refine ⟨.inr ci, S', I', J', T', Lc, q1, ?_, ?_, X', e3, k, g1, g2, hsteps⟩
    · rw [Stand.throwing_heap] at q2
      exact q2
    · exact ⟨by have := q3.1; rw [Stand.throwing_vm] at this; exact this, by have := q3.2; rw [Stand.throwing_heap] at this; exact this⟩
end Run
end
section
/-! ===== CALL ROWS ===== -/
/-- a throw under way: the frame g, the thrown object k over it -/
def VT (C : CT) (l : Launch) (K : KT) (R : RT) (Po : PoT) (pc : Nat) (L : LT) (st : List Value) (S : ShT) (I : DI) (J : DJ) (u : Nat × Nat) (k : Nat) : Prop :=
  ∀ (p : Program) (e : Env) (s : State) (m : MethodId) (args : Array Value) (below : List Frame) (meth : Method) (c : Code), Iv C l K p s m meth c →
    ∀ (T : State) (ls : Array Slot) (locs : List Loc), MR C S I J T.heap → lv_has ls K.2.2.2.2.1 (lC C L) → va_S (AX C) s.heap T.heap locs → u.1 ≤ R.2.1 → u.2 ≤ R.2.2 → Stand p l e (RM R) s m args below meth c T locs u.1 u.2 →
    ∃ t, Steps p.tables e below ((T.setTop (F0 m pc ls (st.map (cv C)))).pushFrame (.throwing (c0 C + k))) t ∧ ZX C R Po below s t
/-- a call site: the card, the links; n: how many parameters -/
def CsV (own : String) (idx : Nat) (K : KT) (y : MethodName) (n : Nat) : Prop := Cd K y ∧ Wd (.methodLink own idx y) ∧ Wd (.instanceMethod y) ∧ Wd (.selects y.cls y y) ∧ (parseMethodDescriptor y.desc).map (fun d => d.parameters.length) = some n
def CsS (own : String) (idx : Nat) (K : KT) (y : MethodName) (n : Nat) : Prop := Cd K y ∧ Wd (.methodLink own idx y) ∧ Wd (.static y) ∧ (parseMethodDescriptor y.desc).map (fun d => d.parameters.length) = some n
def CsN (own : String) (idx : Nat) (K : KT) (y : MethodName) (n : Nat) : Prop := Cd K y ∧ (∃ host, Cond.methodLinkNest own idx y host ∈ lw_tbl) ∧ Wd (.static y) ∧ (parseMethodDescriptor y.desc).map (fun d => d.parameters.length) = some n
def CsI (own : String) (idx : Nat) (K : KT) (y : MethodName) (n : Nat) : Prop := Cd K y ∧ (Wd (.methodLink own idx y) ∨ ∃ host, Cond.methodLinkNest own idx y host ∈ lw_tbl) ∧ Wd (.instanceMethod y) ∧ K.2.2.2.1 = [] ∧ K.2.2.2.2.2 = none ∧ y.name = "<init>" ∧ (parseMethodDescriptor y.desc).map (fun d => d.parameters.length) = some n
theorem nest_at {C : CT} {l : Launch} (hC : OKC C l) {own : String} {idx : Nat} {y : MethodName} {host : String} (h : Cond.methodLinkNest own idx y host ∈ lw_tbl) {U : State} (hW : (cS C).WarmedH U.vm) (a : Array Value) : (Cond.methodLinkNest own idx y host).before a U = true :=
  va_Nw.use rfl (va_Nw.warmM hW (va_Nw.of rfl (hC.2.1 _ h)))
theorem par_len {y : MethodName} {n : Nat} {as : List Value} (h : (parseMethodDescriptor y.desc).map (fun d => d.parameters.length) = some n) (ha : as.length = n) : ∀ sig, parseMethodDescriptor y.desc = some sig → as.length = sig.parameters.length := by
  intro sig hs
  rw [hs] at h
  exact ha.trans (Option.some.inj h).symm
section Rows
variable {C : CT} {l : Launch} {K K' : KT} {R R' : RT} {Po Po' : PoT} {pc pc' : Nat} {L L' : LT} {st stk : List Value} {S S' : ShT} {I I' : DI} {J J' : DJ} {u : Nat × Nat} {y : MethodName} {as : List Value}
/-- behind the callee's run -/
theorem v_back {p : Program} {e : Env} {s : State} {m : MethodId} {args : Array Value} {below : List Frame} {meth : Method} {c : Code} {T : State} {locs : List Loc} {ls : Array Slot} (hI : Iv C l K p s m meth c) (hL : lv_has ls K.2.2.2.2.1 (lC C L)) (hS : va_S (AX C) s.heap T.heap locs) (hK' : Cd K' y) (hSp : Sp C l K' y R' as S I J Po') (hM : MR C S I J T.heap)
    {vm₁ : Vm} (X₁ : Stand p l e (RM R) s m args below meth c (T.setVm vm₁) locs u.1 u.2) {mk : MethodId} (hn : (T.setVm vm₁).methodNamed? y = some mk) {ig : Instr} (hdg : decode K.1 pc = .ok (ig, 3)) (hw : (st.map fun v => v.category).sum ≤ 8) (hfr : R'.1 + 1 ≤ R.1) (hu : u.1 + R'.2.1 ≤ R.2.1 ∧ u.2 + R'.2.2 ≤ R.2.2) (hp : pc + 3 = pc')
    (kk : ∀ (v : Option Value) (S' : ShT) (I' : DI) (J' : DJ), Po' (.inl v) S' I' J' → V C l K R Po pc' L (v.toList ++ st) S' I' J' (u.1 + R'.2.1, u.2 + R'.2.2))
    (kt : ∀ (ci k : Nat) (S' : ShT) (I' : DI) (J' : DJ), Po' (.inr ci) S' I' J' → S'.1 = k + 1 → (S'.2.1 k).1 = ci → VT C l K R Po pc L st S' I' J' (u.1 + R'.2.1, u.2 + R'.2.2) k)
    (hstep : ∀ target, Steps p.tables e below (doInvoke e ((T.setVm vm₁).setTop (F0 m pc ls (st.map (cv C)))) [] mk (as.map (cv C)).toArray).1 target → Steps p.tables e below (T.setTop (F0 m pc ls (stk.map (cv C)))) target) :
    ∃ t, Steps p.tables e below (T.setTop (F0 m pc ls (stk.map (cv C)))) t ∧ ZX C R Po below s t := by
  obtain ⟨hC, hx, hb, hr, hml, hown, hlk, hh, hG, ⟨S0, I0, J0, hM0⟩, hnm⟩ := id hI
  subst hp
  have hG1 : GG C (T.setVm vm₁) := hG.on hS hM0.z rfl X₁.warmed
  obtain ⟨r, S1, I1, J1, T', Lc, q1, q2, q3, X', q5, q6⟩ := Sp.run X₁ hC hK' hSp (show MR C S I J (T.setVm vm₁).heap from hM) hG1 hn (g := F0 m pc ls (st.map (cv C))) rfl (by rw [hml]; exact hL.1) (by rw [hb]; exact hdg) (lv_room (by
    have : ((st.map (cv C)).map fun v => v.category) = st.map fun v => v.category := by
      rw [List.map_map]
      congr 1
      funext v
      exact cv_cat C v
    show ((st.map (cv C)).map fun v => v.category).sum ≤ 8
    rw [this]
    exact hw)) hfr hu.1 hu.2
  have hS' : va_S (AX C) s.heap T'.heap (locs ++ Lc) := ⟨X'.same.2.1, fun q _ h2 => by rw [q3.2 q (Nat.not_le.mp h2), hG.2 q (Nat.not_le.mp h2)], fun z hz => by
    rcases List.mem_append.mp hz with h | h
    · exact hS.2.2 z h
    · exact q5 z h⟩
  cases r with
  | inl v =>
    have w := kk v S1 I1 J1 q1 p e s m args below meth c hI T'.heap ls (locs ++ Lc) q2 hL hS' hu.1 hu.2 T' rfl X'
    obtain ⟨t, a1, b1⟩ := w
    refine ⟨t, hstep _ (q6.trans ?_), b1⟩
    have e9 : (v.toList ++ st).map (cv C) = (v.map (cv C)).toList ++ st.map (cv C) := by cases v <;> rfl
    rw [e9] at a1
    exact a1
  | inr ci =>
    obtain ⟨k, g1, g2, g3⟩ := q6
    obtain ⟨t, a1, b1⟩ := kt ci k S1 I1 J1 q1 g1 g2 p e s m args below meth c hI T' ls (locs ++ Lc) q2 hL hS' hu.1 hu.2 X'
    exact ⟨t, hstep _ (g3.trans a1), b1⟩
theorem v_callV {b ci idx n : Nat} (hd : decode K.1 pc = .ok (.invokevirtual idx, 3)) (hk : CsV K.2.1 idx K' y n) (hSp : Sp C l K' y R' (.ref b :: as) S I J Po') (hb0 : isO S b ci) (hc : ci < 12) (hcy : kN ci = y.cls) (hn : as.length = n) (hst : as.reverse ++ .ref b :: st = stk) (hw : (st.map fun v => v.category).sum ≤ 8) (hfr : R'.1 + 1 ≤ R.1) (hu : u.1 + R'.2.1 ≤ R.2.1 ∧ u.2 + R'.2.2 ≤ R.2.2) (hp : pc + 3 = pc')
    (kk : ∀ (v : Option Value) (S' : ShT) (I' : DI) (J' : DJ), Po' (.inl v) S' I' J' → V C l K R Po pc' L (v.toList ++ st) S' I' J' (u.1 + R'.2.1, u.2 + R'.2.2))
    (kt : ∀ (ci k : Nat) (S' : ShT) (I' : DI) (J' : DJ), Po' (.inr ci) S' I' J' → S'.1 = k + 1 → (S'.2.1 k).1 = ci → VT C l K R Po pc L st S' I' J' (u.1 + R'.2.1, u.2 + R'.2.2) k) : V C l K R Po pc L stk S I J u := by
  intro p e s m args below meth c hI H ls locs hM hL hS h1 h2 T hT X
  subst hT
  obtain ⟨hC, hx, hb, hr, hml, hown, hlk, hh, hG, ⟨S0, I0, J0, hM0⟩, hnm⟩ := id hI
  obtain ⟨k1, k2, k3, k4, k5⟩ := hk
  obtain ⟨-, -, -, hy, w5, -, -⟩ := id k1
  obtain ⟨mk, methM, hnamed, hmethM, hstM, habM⟩ := Cond.instanceMethod_spec (k3.at hC hG.1 args)
  obtain ⟨methM', cM, hmethM', -, -, -, -, -, -, hsigM⟩ := cwd_spec hnamed (w5.at hC hG.1 args)
  cases hmethM.symm.trans hmethM'
  have hPv := hM.2 b hb0.1
  rw [cel_o hb0.2 hc] at hPv
  obtain ⟨r', hr', cellV, g1, g2, g3, -⟩ := hPv
  have hcls : s.vm.findClass y.cls = some cellV.cls := by rw [← hcy, g2]; exact ((hG.K hC).1 ci _ (vw_at hc)).2.1
  obtain ⟨c2, r2, m2, q1, q2, q3, q4, kP, hkP, hkPi⟩ := Cond.selects_spec (k4.at hC hG.1 args)
  cases hcls.symm.trans q1
  cases (State.methodFound?_of_named hnamed hy).symm.trans q2
  cases hnamed.symm.trans q3
  have hselP : selectMethod e.platform s.vm cellV.cls mk = .method mk := by rw [Launch.admits_selectMethod X.admits]; exact q4
  obtain ⟨vm₁, X₁, hstep₁⟩ := X.invokevirtual hx hown (k2.at hC hG.1 args) hnamed hmethM hstM hkP hkPi hy (a := c0 C + b) (cell := cellV) g1
    (fun z h => by rw [g3] at h; cases h) hselP hmethM habM hkP hkPi (g := F0 m pc ls (stk.map (cv C))) rfl (argsL := as.map (cv C)) (rest := st.map (cv C)) (by rw [List.length_map]; exact par_len k5 hn _ hsigM) (by rw [← hst, List.map_append, List.map_reverse]; rfl) (by rw [hb]; exact hd)
  exact v_back (as := .ref b :: as) hI hL hS k1 hSp hM X₁ (X₁.named hnamed) hd hw hfr hu hp kk kt (fun target h => hstep₁ _ fun acts => by rw [doInvoke_state]; exact h)
theorem v_callS {idx n : Nat} (hd : decode K.1 pc = .ok (.invokestatic idx, 3)) (hk : CsS K.2.1 idx K' y n) (hSp : Sp C l K' y R' as S I J Po') (hn : as.length = n) (hst : as.reverse ++ st = stk) (hw : (st.map fun v => v.category).sum ≤ 8) (hfr : R'.1 + 1 ≤ R.1) (hu : u.1 + R'.2.1 ≤ R.2.1 ∧ u.2 + R'.2.2 ≤ R.2.2) (hp : pc + 3 = pc')
    (kk : ∀ (v : Option Value) (S' : ShT) (I' : DI) (J' : DJ), Po' (.inl v) S' I' J' → V C l K R Po pc' L (v.toList ++ st) S' I' J' (u.1 + R'.2.1, u.2 + R'.2.2))
    (kt : ∀ (ci k : Nat) (S' : ShT) (I' : DI) (J' : DJ), Po' (.inr ci) S' I' J' → S'.1 = k + 1 → (S'.2.1 k).1 = ci → VT C l K R Po pc L st S' I' J' (u.1 + R'.2.1, u.2 + R'.2.2) k) : V C l K R Po pc L stk S I J u := by
  intro p e s m args below meth c hI H ls locs hM hL hS h1 h2 T hT X
  subst hT
  obtain ⟨hC, hx, hb, hr, hml, hown, hlk, hh, hG, ⟨S0, I0, J0, hM0⟩, hnm⟩ := id hI
  obtain ⟨k1, k2, k3, k5⟩ := hk
  obtain ⟨-, -, -, hy, w5, w6, -⟩ := id k1
  obtain ⟨mk, hnamed⟩ := cwd_named (w5.at hC hG.1 args)
  obtain ⟨methM, cM, hmethM, -, -, -, -, -, -, hsigM⟩ := cwd_spec hnamed (w5.at hC hG.1 args)
  have hstatic : methM.isStatic = true := Cond.static_spec hnamed hmethM (k3.at hC hG.1 args)
  obtain ⟨kP, hkP, -⟩ := className_of_methodNamed hnamed
  have hinitP : kP.init = .initialized := Cond.initialized_spec (findClass_of_methodNamed hnamed) hkP (w6.at hC hG.1 args)
  obtain ⟨vm₁, X₁, hstep₁⟩ := X.invokestatic hx hown (k2.at hC hG.1 args) hnamed hmethM hstatic hkP hinitP hy (g := F0 m pc ls (stk.map (cv C))) rfl (argsL := as.map (cv C)) (rest := st.map (cv C)) (by rw [List.length_map]; exact par_len k5 hn _ hsigM) (by rw [← hst, List.map_append, List.map_reverse]) (by rw [hb]; exact hd)
  exact v_back (as := as) hI hL hS k1 hSp hM X₁ (X₁.named hnamed) hd hw hfr hu hp kk kt (fun target h => hstep₁ _ fun acts => by rw [doInvoke_state]; exact h)
theorem v_callN {idx n : Nat} (hd : decode K.1 pc = .ok (.invokestatic idx, 3)) (hk : CsN K.2.1 idx K' y n) (hSp : Sp C l K' y R' as S I J Po') (hn : as.length = n) (hst : as.reverse ++ st = stk) (hw : (st.map fun v => v.category).sum ≤ 8) (hfr : R'.1 + 1 ≤ R.1) (hu : u.1 + R'.2.1 ≤ R.2.1 ∧ u.2 + R'.2.2 ≤ R.2.2) (hp : pc + 3 = pc')
    (kk : ∀ (v : Option Value) (S' : ShT) (I' : DI) (J' : DJ), Po' (.inl v) S' I' J' → V C l K R Po pc' L (v.toList ++ st) S' I' J' (u.1 + R'.2.1, u.2 + R'.2.2))
    (kt : ∀ (ci k : Nat) (S' : ShT) (I' : DI) (J' : DJ), Po' (.inr ci) S' I' J' → S'.1 = k + 1 → (S'.2.1 k).1 = ci → VT C l K R Po pc L st S' I' J' (u.1 + R'.2.1, u.2 + R'.2.2) k) : V C l K R Po pc L stk S I J u := by
  intro p e s m args below meth c hI H ls locs hM hL hS h1 h2 T hT X
  subst hT
  obtain ⟨hC, hx, hb, hr, hml, hown, hlk, hh, hG, ⟨S0, I0, J0, hM0⟩, hnm⟩ := id hI
  obtain ⟨k1, ⟨host, k2⟩, k3, k5⟩ := hk
  obtain ⟨-, -, -, hy, w5, w6, -⟩ := id k1
  obtain ⟨mk, hnamed⟩ := cwd_named (w5.at hC hG.1 args)
  obtain ⟨methM, cM, hmethM, -, -, -, -, -, -, hsigM⟩ := cwd_spec hnamed (w5.at hC hG.1 args)
  have hstatic : methM.isStatic = true := Cond.static_spec hnamed hmethM (k3.at hC hG.1 args)
  obtain ⟨kP, hkP, -⟩ := className_of_methodNamed hnamed
  have hinitP : kP.init = .initialized := Cond.initialized_spec (findClass_of_methodNamed hnamed) hkP (w6.at hC hG.1 args)
  obtain ⟨vm₁, X₁, hstep₁⟩ := X.invokestaticNest hx hown (nest_at hC k2 hG.1 args) hnamed hmethM hstatic hkP hinitP hy (g := F0 m pc ls (stk.map (cv C))) rfl (argsL := as.map (cv C)) (rest := st.map (cv C)) (by rw [List.length_map]; exact par_len k5 hn _ hsigM) (by rw [← hst, List.map_append, List.map_reverse]) (by rw [hb]; exact hd)
  exact v_back (as := as) hI hL hS k1 hSp hM X₁ (X₁.named hnamed) hd hw hfr hu hp kk kt (fun target h => hstep₁ _ fun acts => by rw [doInvoke_state]; exact h)
theorem v_callI {b idx n : Nat} (hd : decode K.1 pc = .ok (.invokespecial idx, 3)) (hk : CsI K.2.1 idx K' y n) (hSp : Sp C l K' y R' (.ref b :: as) S I J Po') (hn : as.length = n) (hst : as.reverse ++ .ref b :: st = stk) (hw : (st.map fun v => v.category).sum ≤ 8) (hfr : R'.1 + 1 ≤ R.1) (hu : u.1 + R'.2.1 ≤ R.2.1 ∧ u.2 + R'.2.2 ≤ R.2.2) (hp : pc + 3 = pc')
    (kk : ∀ (v : Option Value) (S' : ShT) (I' : DI) (J' : DJ), Po' (.inl v) S' I' J' → V C l K R Po pc' L (v.toList ++ st) S' I' J' (u.1 + R'.2.1, u.2 + R'.2.2))
    (kt : ∀ (ci k : Nat) (S' : ShT) (I' : DI) (J' : DJ), Po' (.inr ci) S' I' J' → S'.1 = k + 1 → (S'.2.1 k).1 = ci → VT C l K R Po pc L st S' I' J' (u.1 + R'.2.1, u.2 + R'.2.2) k) : V C l K R Po pc L stk S I J u := by
  intro p e s m args below meth c hI H ls locs hM hL hS h1 h2 T hT X
  subst hT
  obtain ⟨hC, hx, hb, hr, hml, hown, hlk, hh, hG, ⟨S0, I0, J0, hM0⟩, hnm⟩ := id hI
  obtain ⟨k1, k2, k3, k4, k4b, hy1, k5⟩ := hk
  obtain ⟨-, -, -, hy, w5, w6, -⟩ := id k1
  have hpl : e.platform.magicAccessors = ({} : Platform).magicAccessors := by rw [X.admits.platform]
  have hcode : (Cond.code y K'.1 K'.2.2.2.2.1 none).before args s = true := by
    have h := w5.at hC hG.1 args
    unfold cwd at h
    rw [k4, k4b] at h
    exact h
  have hlenA : ∀ sig, parseMethodDescriptor y.desc = some sig → (as.map (cv C)).length = sig.parameters.length := by
    intro sig h
    rw [List.length_map]
    exact par_len k5 hn sig h
  have hstk : (F0 m pc ls (stk.map (cv C))).stack = (as.map (cv C)).reverse ++ .ref (c0 C + b) :: st.map (cv C) := by
    show stk.map (cv C) = _
    rw [← hst, List.map_append, List.map_reverse]
    rfl
  rcases k2 with k2 | ⟨host, k2⟩
  · obtain ⟨mk, methM, cM, kP, vm₁, hnamed, hmethM, hcodeM, -, hlocalsM, -, hkP, -, hW₁, hstep₁⟩ := Steps.initColdArgs (e := e) X.here hx X.warmed hpl hown hy1 hy (k2.at hC hG.1 args) (k3.at hC hG.1 args) hcode (f := F0 m pc ls (stk.map (cv C))) rfl hlenA hstk (by rw [hb]; exact hd)
    have X₁ := X.noted hW₁
    exact v_back (as := .ref b :: as) hI hL hS k1 hSp hM X₁ (X₁.named hnamed) hd hw hfr hu hp kk kt (fun target h => hstep₁ _ fun acts => by rw [doInvoke_state]; exact h)
  · obtain ⟨mk, methM, cM, kP, vm₁, hnamed, hmethM, hcodeM, -, hlocalsM, -, hkP, -, hW₁, hstep₁⟩ := Steps.initColdArgsNest (e := e) X.here hx X.warmed hpl hown hy1 hy (nest_at hC k2 hG.1 args) (k3.at hC hG.1 args) hcode (f := F0 m pc ls (stk.map (cv C))) rfl hlenA hstk (by rw [hb]; exact hd)
    have X₁ := X.noted hW₁
    exact v_back (as := .ref b :: as) hI hL hS k1 hSp hM X₁ (X₁.named hnamed) hd hw hfr hu hp kk kt (fun target h => hstep₁ _ fun acts => by rw [doInvoke_state]; exact h)
end Rows
end
section
/-! ===== ROWS THAT MAKE CELLS ===== -/
def zf {α : Type} (f : Nat → Nat → α) (n : Nat) (z : α) : Nat → Nat → α := fun b => if n ≤ b then fun _ => z else f b
def ad1 (S : ShT) (k : Nat × Nat) : ShT := (S.1 + 1, fun b => if b = S.1 then k else S.2.1 b, zf S.2.2 S.1 none)
def ad2 (S : ShT) (N M : Nat) : ShT := (S.1 + 1 + N, fun b => if b = S.1 then (37, N) else if S.1 < b then (32, M) else S.2.1 b, fun b j => if b = S.1 then (if j < N then some (S.1 + 1 + j) else none) else zf S.2.2 S.1 none b j)
theorem zf_lt {α : Type} {f : Nat → Nat → α} {n : Nat} {z : α} {b : Nat} (h : b < n) : zf f n z b = f b := by
  unfold zf
  rw [if_neg (by omega)]
theorem zf_ge {α : Type} {f : Nat → Nat → α} {n : Nat} {z : α} {b j : Nat} (h : n ≤ b) : zf f n z b j = z := by
  unfold zf
  rw [if_pos h]
theorem MR.grow {C : CT} {S S' : ShT} {I I' : DI} {J J' : DJ} {H H' : Heap} (h : MR C S I J H) (hz : H'.size = c0 C + S'.1) (ho : ∀ q, q < H.size → H'[q]? = H[q]?) (hk : ∀ k, k < S.1 → S'.2.1 k = S.2.1 k ∧ S'.2.2 k = S.2.2 k ∧ I' k = I k ∧ J' k = J k) (hn : ∀ k, S.1 ≤ k → k < S'.1 → va_at (cD C) vwCl (c0 C + k, cel C S' I' J' k) H') : MR C S' I' J' H' := by
  refine ⟨hz, fun k hk' => ?_⟩
  by_cases hl : k < S.1
  · obtain ⟨g1, g2, g3, g4⟩ := hk k hl
    rw [cel_eq g1 g2 g3 g4]
    exact (h.2 k hl).kept (ho _ (by rw [h.1]; show c0 C + k < c0 C + S.1; omega))
  · exact hn k (by omega) hk'
theorem va_S.grow {A : Nat → Prop} {H0 H H1 : Heap} {locs : List Loc} (h : va_S A H0 H locs) (z : H.size ≤ H1.size) (o : ∀ q, q < H.size → H1[q]? = H[q]?) : va_S A H0 H1 locs :=
  ⟨Nat.le_trans h.1 z, fun x h1 h2 => (o x (Nat.lt_of_lt_of_le h1 h.1)).trans (h.2.1 x h1 h2), h.2.2⟩
theorem fV_new {C : CT} {S : ShT} {I : DI} {J : DJ} {n j : Nat} (h1 : S.2.2 n j = none) (h2 : I n j = 0) (h3 : J n j = 0) {t : FieldType} (ht : t = .int ∨ t = .boolean ∨ t = .long ∨ isR t = true) : fV C S I J n j t = defaultValue t := by
  rcases ht with rfl | rfl | rfl | h
  · simp [fV, h2, defaultValue]
  · simp [fV, h2, defaultValue]
  · simp [fV, h3, defaultValue]
  · cases t <;> first | (cases h; done) | (simp [fV, fR, h1, defaultValue])
def okT (t : FieldType) : Bool := match t with
  | .int => true
  | .boolean => true
  | .long => true
  | .object _ => true
  | .array _ => true
  | _ => false
theorem okT_s {t : FieldType} (h : okT t = true) : t = .int ∨ t = .boolean ∨ t = .long ∨ isR t = true := by
  cases t <;> simp_all [okT, isR]
theorem ky_ok : ∀ c, c < 12 → ∀ k, k < kF c → okT (kY c k) = true := by decide +kernel
section Rows
variable {C : CT} {l : Launch} {K : KT} {R : RT} {Po : PoT} {pc pc' : Nat} {L L' : LT} {st : List Value} {S S' : ShT} {I I' : DI} {J J' : DJ} {u : Nat × Nat}
theorem v_new {ci idx N : Nat} (hd : decode K.1 pc = .ok (.new idx, 3)) (hc : ci < 12) (hw1 : Wd (.classLink K.2.1 idx (kN ci))) (hw2 : Wd (.instantiable (kN ci) N)) (hw3 : Wd (.initialized (kN ci))) (hu : u.1 + 1 ≤ R.2.1 ∧ u.2 + N ≤ R.2.2) (hp : pc + 3 = pc')
    (kk : V C l K R Po pc' L (.ref S.1 :: st) (ad1 S (ci, 0)) (zf I S.1 0) (zf J S.1 0) (u.1 + 1, u.2 + N)) : V C l K R Po pc L st S I J u := by
  intro p e s m args below meth c hI H ls locs hM hL hS h1 h2
  subst hp
  obtain ⟨hC, hx, hb, hr, hml, hown, hlk, hh, hG, ⟨S0, I0, J0, hM0⟩, hnm⟩ := id hI
  have hKn := (hG.K hC).1 ci _ (vw_at hc)
  refine W.newcK hx hb hown (hw1.at hC hG.1 args) (hw2.at hC hG.1 args) (hw3.at hC hG.1 args) rfl hd hu.1 hu.2 hKn.2.1 hM.1 fun H1 kC hkC e1 z1 o1 => ?_
  have o2 : ∀ q, q < H.size → H1[q]? = H[q]? := fun q hq => o1 q (by rw [← hM.1]; exact hq)
  refine kk p e s m args below meth c hI H1 ls locs (hM.grow (by rw [z1]; rfl) o2 (fun k hk => ⟨?_, zf_lt hk, zf_lt hk, zf_lt hk⟩) (fun k g1 g2 => ?_)) hL (hS.grow (by rw [z1, hM.1]; exact Nat.le_succ _) o2) hu.1 hu.2
  · show (if k = S.1 then _ else _) = _
    rw [if_neg (by omega)]
  · have hk : k = S.1 := by have : k < S.1 + 1 := g2; omega
    subst hk
    rw [cel_o (ci := ci) (by show (if S.1 = S.1 then _ else _ : Nat × Nat).1 = ci; rw [if_pos rfl]) hc]
    refine ⟨_, vw_at hc, (u_born (kY ci) (hG.lays hC ci args) (fun w h => h) hKn hkC e1 (ky_all ci)).to fun j hj => ?_⟩
    rw [fL_V hj, fV_new (zf_ge (Nat.le_refl _)) (zf_ge (Nat.le_refl _)) (zf_ge (Nat.le_refl _)) (okT_s (ky_ok ci hc j hj))]
theorem v_newa {t N : Nat} {atype : ArrayType} {x : Int32} (hd : decode K.1 pc = .ok (.newarray atype, 2)) (ht : (t = 32 ∧ atype = .int) ∨ (t = 33 ∧ atype = .boolean) ∨ (t = 34 ∧ atype = .long)) (hw : Wd (.arrayClass (tgT t))) (hx : x = nI N) (hN : N ≤ 1000) (hu : u.1 + 1 ≤ R.2.1 ∧ u.2 + N ≤ R.2.2) (hp : pc + 2 = pc')
    (kk : V C l K R Po pc' L (.ref S.1 :: st) (ad1 S (t, N)) (zf I S.1 0) (zf J S.1 0) (u.1 + 1, u.2 + N)) : V C l K R Po pc L (.int x :: st) S I J u := by
  intro p e s m args below meth c hI H ls locs hM hL hS h1 h2
  subst hp
  obtain ⟨hC, hx0, hb, hr, hml, hown, hlk, hh, hG, ⟨S0, I0, J0, hM0⟩, hnm⟩ := id hI
  have hty : newarray.typeOf atype = tgT t := by rcases ht with ⟨rfl, rfl⟩ | ⟨rfl, rfl⟩ | ⟨rfl, rfl⟩ <;> rfl
  have ht32 : 32 ≤ t := by omega
  have hRA : s.vm.findClass ("[" ++ (tgT t).toString) = some (cA C t) := by
    have h := (hG.arr hC ht32).2
    rcases ht with ⟨rfl, rfl⟩ | ⟨rfl, rfl⟩ | ⟨rfl, rfl⟩ <;> exact h
  refine va_newaK hx0 hb (atype := atype) (by rw [hty]; exact hw.at hC hG.1 args) rfl hd rfl (by rw [hx]; exact nI_pos (by omega)) (by rw [hx]; exact nI_clamp (by omega)) (by rcases ht with ⟨rfl, rfl⟩ | ⟨rfl, rfl⟩ | ⟨rfl, rfl⟩ <;> simp only [newarray.typeOf, componentBytes] <;> omega) hu.1 hu.2 hM.1 fun H1 cA1 e1 z1 o1 a1 a2 => ?_
  rw [hty] at a2 e1
  cases hRA.symm.trans a2
  have o2 : ∀ q, q < H.size → H1[q]? = H[q]? := fun q hq => o1 q (by rw [← hM.1]; exact hq)
  refine kk p e s m args below meth c hI H1 ls locs (hM.grow (by rw [z1]; rfl) o2 (fun k hk => ⟨?_, zf_lt hk, zf_lt hk, zf_lt hk⟩) (fun k g1 g2 => ?_)) hL (hS.grow (by rw [z1, hM.1]; exact Nat.le_succ _) o2) hu.1 hu.2
  · show (if k = S.1 then _ else _) = _
    rw [if_neg (by omega)]
  · have hk : k = S.1 := by have : k < S.1 + 1 := g2; omega
    subst hk
    rw [cel_a (t := t) (n := N) (by show (if S.1 = S.1 then _ else _ : Nat × Nat) = _; rw [if_pos rfl]) ht32]
    show H1[c0 C + S.1]? = some (vp_cell _ _)
    rw [e1]
    rcases ht with ⟨rfl, rfl⟩ | ⟨rfl, rfl⟩ | ⟨rfl, rfl⟩
    · rw [vc32]
      congr 2
      funext j
      rw [zf_ge (Nat.le_refl _)]
      rfl
    · rw [vc33]
      congr 2
      funext j
      rw [zf_ge (Nat.le_refl _)]
      rfl
    · rw [vc34]
      congr 2
      funext j
      rw [zf_ge (Nat.le_refl _)]
      rfl
theorem v_anew {t N idx ci : Nat} {x : Int32} (hd : decode K.1 pc = .ok (.anewarray idx, 3)) (ht : 35 ≤ t) (htc : tgT t = .object (kN ci)) (hw : Wd (.classLink K.2.1 idx (kN ci))) (hw2 : Cond.arrayOver (.object (kN ci)) ∈ lw_tbl) (hx : x = nI N) (hN : N ≤ 1000) (hu : u.1 + 1 ≤ R.2.1 ∧ u.2 + N ≤ R.2.2) (hp : pc + 3 = pc')
    (kk : V C l K R Po pc' L (.ref S.1 :: st) (ad1 S (t, N)) (zf I S.1 0) (zf J S.1 0) (u.1 + 1, u.2 + N)) : V C l K R Po pc L (.int x :: st) S I J u := by
  intro p e s m args below meth c hI H ls locs hM hL hS h1 h2
  subst hp
  obtain ⟨hC, hx0, hb, hr, hml, hown, hlk, hh, hG, ⟨S0, I0, J0, hM0⟩, hnm⟩ := id hI
  have hcl : x.toNatClampNeg = N := by rw [hx]; exact nI_clamp (by omega)
  have hRA := (hG.arr hC (t := t) (by omega)).2
  rw [htc] at hRA
  obtain ⟨-, -, -, -, -, hfc⟩ := hRA
  refine W.anew hx0 hb hown (hw.at hC hG.1 args) (va_AO.use (A := args) (va_AO.moved hG.1.alike (va_AO.of (hC.2.1 _ hw2)))) rfl hd rfl (by rw [hx]; exact nI_pos (by omega)) (by rw [hcl]; omega) hu.1 (by rw [hcl]; exact hu.2) fun cA1 kA comp f1 f2 f3 f4 => ?_
  cases hfc.symm.trans f1
  rw [hcl, hM.1]
  generalize hH1 : H.push ({ cls := cA C t, slots := Array.replicate N .null, vm := .none } : Cell) = H1
  have z1 : H1.size = H.size + 1 := by rw [← hH1, Array.size_push]
  have e1 : H1[H.size]? = some (arrV (cA C t) N (fun _ => .null)) := by rw [← hH1, Array.getElem?_push_size, ← arrV_new]
  have o2 : ∀ q : Nat, q < H.size → H1[q]? = H[q]? := fun q hq => by rw [← hH1, Array.getElem?_push, if_neg (Nat.ne_of_lt hq)]
  refine kk p e s m args below meth c hI H1 ls locs (hM.grow (by rw [z1, hM.1]; rfl) o2 (fun k hk => ⟨?_, zf_lt hk, zf_lt hk, zf_lt hk⟩) (fun k g1 g2 => ?_)) hL (hS.grow (by rw [z1]; exact Nat.le_succ _) o2) hu.1 hu.2
  · show (if k = S.1 then _ else _) = _
    rw [if_neg (by omega)]
  · have hk : k = S.1 := by have : k < S.1 + 1 := g2; omega
    subst hk
    rw [cel_a (t := t) (n := N) (by show (if S.1 = S.1 then _ else _ : Nat × Nat) = _; rw [if_pos rfl]) (by omega)]
    show H1[c0 C + S.1]? = some (vp_cell _ _)
    rw [← hM.1, e1, vcq ht]
    congr 2
    funext j
    show _ = va_rf ((zf S.2.2 S.1 none S.1 j).map _)
    rw [zf_ge (Nat.le_refl _)]
    rfl
/-- Object's constructor -/
theorem v_obj {idx a : Nat} (hd : decode K.1 pc = .ok (.invokespecial idx, 3)) (hw : Wd (.methodLink K.2.1 idx objectInit)) (hw2 : Wd (.instanceMethod objectInit)) (hw3 : Wd (.code objectInit ⟨#[0xb1]⟩ 1 none)) (hR : 1 ≤ R.1) (hst : (st.map fun v => v.category).sum ≤ 8) (hp : pc + 3 = pc') (kk : V C l K R Po pc' L st S I J u) : V C l K R Po pc L (.ref a :: st) S I J u := by
  intro p e s m args below meth c hI H ls locs hM hL hS h1 h2
  subst hp
  obtain ⟨hC, hx, hb, hr, hml, hown, hlk, hh, hG, ⟨S0, I0, J0, hM0⟩, hnm⟩ := id hI
  have hst2 : ((st.map (cv C)).map fun v => v.category).sum ≤ 8 := by
    have : ((st.map (cv C)).map fun v => v.category) = st.map fun v => v.category := by
      rw [List.map_map]
      congr 1
      funext v
      exact cv_cat C v
    rw [this]
    exact hst
  have hrm := lv_room (m := m) (pc := pc) (ls := ls) (rest := (.ref a :: st).map (cv C)) hst2
  refine W.objInit hx hb hown (hw.at hC hG.1 args) (hw2.at hC hG.1 args) (hw3.at hC hG.1 args) rfl (by rw [hml]; exact hL.1) rfl hd hR (by show _ ≤ 36 * R.1; omega) ?_
  exact kk p e s m args below meth c hI H ls locs hM hL hS h1 h2
end Rows
end
section
/-! ===== new int[N][M] ===== -/
theorem ao_spec {a : Array Value} {s : State} {t : FieldType} (h : (Cond.arrayOver (.array t)).before a s = true) :
    ∃ comp c k, s.vm.findClass (FieldType.array t).toString = some comp ∧ (s.vm.classes.findIdx? fun (x : Class) => match x.kind with | .array component _ => component == comp | _ => false) = some c ∧ s.vm.classes[c]? = some k ∧ k.kind = .array comp (.array t) ∧ s.vm.findClass ("[" ++ (FieldType.array t).toString) = some c := by
  unfold Cond.before Cond.holds at h
  simp only [Cond.value, beq_iff_eq] at h
  cases hc : s.vm.findClass (FieldType.array t).toString with
  | none => simp [hc] at h
  | some comp =>
    cases hi : (s.vm.classes.findIdx? fun (x : Class) => match x.kind with | .array component _ => component == comp | _ => false) with
    | none =>
      rw [hc, Option.bind_some] at h
      have h' := (congrArg (fun o : Option Nat => (o.bind (fun c => (s.vm.classes[c]?).map fun (k : Class) => match k.kind with | .array _ ty => decide (ty = FieldType.array t) && decide (s.vm.findClass ("[" ++ (FieldType.array t).toString) = some c) | _ => false))) hi).symm.trans h
      simp at h'
    | some c =>
      rw [hc, Option.bind_some] at h
      have h' := (congrArg (fun o : Option Nat => (o.bind (fun c => (s.vm.classes[c]?).map fun (k : Class) => match k.kind with | .array _ ty => decide (ty = FieldType.array t) && decide (s.vm.findClass ("[" ++ (FieldType.array t).toString) = some c) | _ => false))) hi).symm.trans h
      simp only [Option.bind_some] at h'
      cases hk : s.vm.classes[c]? with
      | none => simp [hk] at h'
      | some k =>
        rw [hk, Option.map_some] at h'
        have h2 := Option.some.inj h'
        cases hkind : k.kind with
        | array comp' ty =>
          rw [hkind] at h2
          simp only [Bool.and_eq_true, decide_eq_true_eq] at h2
          have hp := Array.findIdx?_eq_some_iff_getElem.mp hi
          obtain ⟨hlt, hp1, -⟩ := hp
          have he : s.vm.classes[c] = k := by
            have := Array.getElem?_eq_getElem hlt
            rw [hk] at this
            exact (Option.some.inj this).symm
          rw [he, hkind] at hp1
          have hcc : comp' = comp := by simpa using hp1
          exact ⟨comp, c, k, rfl, hi, hk, by rw [hkind, hcc, h2.1], h2.2⟩
        | _ => rw [hkind] at h2; simp at h2
theorem ao_moved {a a' : Array Value} {t : FieldType} {u U : State} (hvm : u.vm.Alike U.vm) (h : (Cond.arrayOver (.array t)).before a u = true) : (Cond.arrayOver (.array t)).before a' U = true := by
  obtain ⟨comp, c, k, h1, h2, h3, h4, h5⟩ := ao_spec h
  obtain ⟨k', hk', he⟩ := hvm.2.2 _ _ h3
  have hi : (U.vm.classes.findIdx? fun (x : Class) => match x.kind with | .array component _ => component == comp | _ => false) = some c := by
    have hb := hvm.bare_eq
    have e1 := va_idx_bare U.vm comp
    have e2 := va_idx_bare u.vm comp
    first | rw [hb] at e2 | rw [← hb] at e2
    exact e1.symm.trans (e2.trans h2)
  have hkind : k'.kind = .array comp (.array t) := by rw [he]; exact h4
  have f1 : U.vm.findClass (FieldType.array t).toString = some comp := by rw [hvm.findClass]; exact h1
  have f2 : U.vm.findClass ("[" ++ (FieldType.array t).toString) = some c := by rw [hvm.findClass]; exact h5
  unfold Cond.before Cond.holds
  simp only [Cond.value]
  rw [f1, Option.bind_some]
  refine (congrArg (fun o : Option Nat => (o.bind (fun c => (U.vm.classes[c]?).map fun (k : Class) => match k.kind with | .array _ ty => decide (ty = FieldType.array t) && decide (U.vm.findClass ("[" ++ (FieldType.array t).toString) = some c) | _ => false) == some true)) hi).trans ?_
  simp [hk', hkind, f2]
theorem mn_ne {H : Heap} {a q : Nat} {x : Cell} (h : q ≠ a) : (H.setIfInBounds a x)[q]? = H[q]? := by
  rw [Array.getElem?_setIfInBounds, if_neg (Ne.symm h)]
theorem mn_eq {H : Heap} {a : Nat} {x : Cell} (h : a < H.size) : (H.setIfInBounds a x)[a]? = some x := by
  rw [Array.getElem?_setIfInBounds, if_pos rfl, if_pos h]
theorem mn_pu {H : Heap} {q : Nat} {x : Cell} (h : q < H.size) : (H.push x)[q]? = H[q]? := by
  rw [Array.getElem?_push, if_neg (Nat.ne_of_lt h)]
theorem mn_sz {k : ClassId} {n : Nat} {F : Nat → Value} : (arrV k n F).slots.size = n := by simp [arrV]
/- one row: the innermost 'make' -/
theorem mn_in {U : State} {e : Env} {E : Jvm.CtlPost} {d : Bool} {acts : List Action} {cI comp : ClassId} {kI : Class} {y : Int32} {M : Nat} {Q : Addr → Jvm.Pre} (hy : ¬ y < 0) (hM : y.toNatClampNeg = M) (hk : U.vm.classes[cI]? = some kI) (hkind : kI.kind = .array comp .int) (hl : ¬ M > e.platform.arrayLengthLimit) (hh : ¬ M * 4 > e.platform.maxHeapBytes) (hc : U.heap.size < e.platform.maxCells) (hs : U.slotsUsed + M ≤ e.platform.maxSlots)
    (hq : ∀ acts', Q U.heap.size d acts' (U.pushCell (arrV cI M (fun _ => .int 0)))) : Jvm.Sem.wp (Jvm.Op.multianewarray.make cI [y]) Q E e d acts U := by
  subst hM
  rw [Jvm.Op.multianewarray.make]
  simp only [Jvm.Sem.wp_bind', Jvm.W.ite, hy, if_false, Jvm.Sem.wp_pure', Jvm.W.theClass, hk, Option.some.injEq, exists_eq_left', hkind]
  refine Jvm.W.newArray_of hk hkind hl hh hc hs rfl fun acts' => ?_
  have h := hq acts'
  rw [← arrV_new] at h
  exact h
section Mna
variable {p : Program} {l : Launch} {e : Env} {R : Room} {s : State} {m : MethodId} {args : Array Value} {below : List Frame} {meth : Method} {c : Code}
/- what holds when i rows hang in the outer array, which lies behind the heap H -/
def mnP (p : Program) (l : Launch) (e : Env) (R : Room) (s : State) (m : MethodId) (args : Array Value) (below : List Frame) (meth : Method) (c : Code) (A : Nat → Prop) (cO cI : ClassId) (N M : Nat) (vm : Vm) (H : Heap) (cells slots i : Nat) (T : State) : Prop :=
  (∃ locs : List Loc, Stand p l e R s m args below meth c T locs (cells + 1 + i) (slots + N + i * M) ∧ va_S A s.heap T.heap locs) ∧ T.vm = vm ∧ T.heap.size = H.size + 1 + i ∧ (∀ q : Nat, q < H.size → T.heap[q]? = H[q]?) ∧ (∀ j : Nat, j < i → T.heap[H.size + 1 + j]? = some (arrV cI M (fun _ => .int 0))) ∧ T.heap[H.size]? = some (arrV cO N (fun j => va_rf (if j < i then some (H.size + 1 + j) else none)))
/- what is known of the classes, the counts and the room -/
def mnK (e : Env) (R : Room) (A : Nat → Prop) (cO cI : ClassId) (N M : Nat) (vm : Vm) (H : Heap) (cells slots : Nat) (y : Int32) : Prop :=
  (∃ kO : Class, vm.classes[cO]? = some kO ∧ kO.kind = .array cI (.array .int)) ∧ (∃ (kI : Class) (comp : ClassId), vm.classes[cI]? = some kI ∧ kI.kind = .array comp .int) ∧ ¬ y < 0 ∧ y.toNatClampNeg = M ∧ ¬ M > e.platform.arrayLengthLimit ∧ ¬ M * 4 > e.platform.maxHeapBytes ∧ A H.size ∧ cells + 1 + N ≤ R.cells ∧ slots + N + N * M ≤ R.slots
theorem mn_turn {A : Nat → Prop} {cO cI : ClassId} {N M cells slots i : Nat} {vm : Vm} {H : Heap} {T : State} {y : Int32} (hK : mnK e R A cO cI N M vm H cells slots y) (hi : i < N) (h : mnP p l e R s m args below meth c A cO cI N M vm H cells slots i T) :
    ∃ T' : State, mnP p l e R s m args below meth c A cO cI N M vm H cells slots (i + 1) T' ∧ ∀ (f : JFrame) (Q : ForInStep PUnit → Jvm.Pre) (E : Jvm.CtlPost) (d : Bool) (acts : List Action), (∀ acts', Q (ForInStep.yield PUnit.unit) true acts' (T'.setTop f)) → Jvm.Sem.wp (Jvm.Op.multianewarray.make cI [y] >>= fun r => (Jvm.writeLoc H.size i (.ref r) >>= fun _ => (Pure.pure (ForInStep.yield PUnit.unit) : Sem (ForInStep PUnit)))) Q E e d acts (T.setTop f) := by
  obtain ⟨⟨kO, hkO, hkO2⟩, ⟨kI, comp, hkI, hkI2⟩, hy, hyM, hl, hh, hA, hc, hs⟩ := hK
  obtain ⟨⟨locs, X, hS⟩, hvm, hz, ho, hr, ht⟩ := h
  have hlt : H.size < T.heap.size := by rw [hz]; omega
  have him : (i + 1) * M ≤ N * M := Nat.mul_le_mul_right M hi
  have hmul : (i + 1) * M = i * M + M := Nat.succ_mul i M
  obtain ⟨r1, r2⟩ := X.roomAbove (a := 1) (b := M) (by omega) (by omega)
  have hu : updV (fun j => va_rf (if j < i then some (H.size + 1 + j) else none)) i (.ref T.heap.size) = fun j => va_rf (if j < i + 1 then some (H.size + 1 + j) else none) := by
    funext j
    rw [hz]
    by_cases ej : j = i
    · subst ej
      simp [updV, va_rf]
    · by_cases hj : j < i
      · simp [updV, ej, hj, Nat.lt_succ_of_lt hj]
      · simp [updV, ej, hj, show ¬ j < i + 1 by omega]
  have hcell : (T.pushCell (arrV cI M (fun _ => .int 0))).heap[H.size]? = some (arrV cO N (fun j => va_rf (if j < i then some (H.size + 1 + j) else none))) := (mn_pu hlt).trans ht
  have X1 := (X.pushed (arrV cI M (fun _ => .int 0))).stored hcell i (.ref T.heap.size)
  rw [arrV_store, hu, mn_sz] at X1
  have hS1 : va_S A s.heap (T.heap.push (arrV cI M (fun _ => .int 0))) locs := hS.grow (by rw [Array.size_push]; omega) (fun q hq => mn_pu hq)
  refine ⟨(T.pushCell (arrV cI M (fun _ => .int 0))).setCell H.size (arrV cO N (fun j => va_rf (if j < i + 1 then some (H.size + 1 + j) else none))), ⟨⟨locs ++ [⟨H.size, i⟩], ?_, ?_⟩, hvm, ?_, fun q hq => ?_, fun j hj => ?_, ?_⟩, fun f Q E d acts hq => ?_⟩
  · rw [show slots + N + (i + 1) * M = slots + N + i * M + M by rw [hmul]; omega]
    exact X1
  · exact hS1.put1 (by show (Array.setIfInBounds _ _ _).size = _; exact Array.size_setIfInBounds) (fun q hq => mn_ne hq) hA
  · show (Array.setIfInBounds (T.heap.push _) _ _).size = _
    rw [Array.size_setIfInBounds, Array.size_push, hz]
    omega
  · show (Array.setIfInBounds (T.heap.push _) _ _)[q]? = _
    rw [mn_ne (by omega), mn_pu (by omega)]
    exact ho q hq
  · show (Array.setIfInBounds (T.heap.push _) _ _)[H.size + 1 + j]? = _
    rw [mn_ne (by omega)]
    by_cases ej : j = i
    · subst ej
      rw [← hz, Array.getElem?_push_size]
    · rw [mn_pu (by rw [hz]; omega)]
      exact hr j (by omega)
  · show (Array.setIfInBounds (T.heap.push _) _ _)[H.size]? = _
    exact mn_eq (by rw [Array.size_push]; omega)
  · rw [Jvm.Sem.wp_bind']
    refine mn_in hy hyM (show T.vm.classes[cI]? = some kI by rw [hvm]; exact hkI) hkI2 hl hh (show T.heap.size < _ by omega) (show T.slotsUsed + M ≤ _ from r2) fun acts1 => ?_
    rw [Jvm.Sem.wp_bind']
    refine (Jvm.W.writeLoc _ _ _ _).mpr ⟨arrV cO N (fun j => va_rf (if j < i then some (H.size + 1 + j) else none)), hcell, (by intro h0; unfold arrV at h0; cases h0), (by rw [mn_sz]; exact hi), ?_, ?_⟩
    · show State.fitsSlot (((T.setTop f).pushCell (arrV cI M (fun _ => .int 0)))) cO .none i (.ref T.heap.size) = true
      simp [State.fitsSlot, State.slotType?, hvm, hkO, hkO2, fits]
    · rw [arrV_store]
      have h := hq (writeActs ⟨H.size, i⟩ .plain (.ref T.heap.size) acts1)
      rw [← hu] at h
      exact h
theorem mn_loop {A : Nat → Prop} {cO cI : ClassId} {N M cells slots : Nat} {vm : Vm} {H : Heap} {y : Int32} (hK : mnK e R A cO cI N M vm H cells slots y) : ∀ (n i : Nat) (T : State), i + n ≤ N → mnP p l e R s m args below meth c A cO cI N M vm H cells slots i T →
    ∃ T' : State, mnP p l e R s m args below meth c A cO cI N M vm H cells slots (i + n) T' ∧ ∀ (f : JFrame) (body : Nat → PUnit → Sem (ForInStep PUnit)), (∀ j : Nat, body j PUnit.unit = (Jvm.Op.multianewarray.make cI [y] >>= fun r => (Jvm.writeLoc H.size j (.ref r) >>= fun _ => (Pure.pure (ForInStep.yield PUnit.unit) : Sem (ForInStep PUnit))))) →
      ∀ (Q : PUnit → Jvm.Pre) (E : Jvm.CtlPost) (d : Bool) (acts : List Action), (∀ d' acts', Q PUnit.unit d' acts' (T'.setTop f)) → Jvm.Sem.wp (forIn (List.range' i n) PUnit.unit body) Q E e d acts (T.setTop f)
  | 0, i, T, _, h => ⟨T, h, fun f body _ Q E d acts hq => by
    rw [List.range'_zero, List.forIn_nil, Jvm.Sem.wp_pure']
    exact hq _ _⟩
  | n + 1, i, T, hn, h => by
    obtain ⟨T1, h1, w1⟩ := mn_turn hK (by omega) h
    obtain ⟨T2, h2, w2⟩ := mn_loop hK n (i + 1) T1 (by omega) h1
    refine ⟨T2, by rw [show i + (n + 1) = i + 1 + n by omega]; exact h2, fun f body hb Q E d acts hq => ?_⟩
    rw [List.range'_succ, List.forIn_cons, Jvm.Sem.wp_bind', hb i]
    exact w1 f _ E d acts fun acts' => w2 f body hb Q E true acts' hq
theorem mn_all {A : Nat → Prop} {T : State} {locs : List Loc} {cells slots N M idx : Nat} {own : String} {x y : Int32} {rest : List Value} {g : JFrame} (X : Stand p l e R s m args below meth c T locs cells slots) (hS : va_S A s.heap T.heap locs) (hexec : p.tables.exec = Jvm.exec) (hown : s.vm.findClass own = some m.cls) (hcl : (Cond.classLink own idx "[[I").before args s = true) (hov : (Cond.arrayOver (.array .int)).before args s = true) (har : (Cond.arrayClass .int).before args s = true)
    (hg : g.method = m) (hd : decode c.code g.pc = .ok (.multianewarray idx 2, 4)) (hst : g.stack = .int y :: .int x :: rest) (hx : ¬ x < 0) (hy : ¬ y < 0) (hxN : x.toNatClampNeg = N) (hyM : y.toNatClampNeg = M) (hN : N ≤ 1000) (hM : M ≤ 1000) (hA : A T.heap.size) (hc : cells + 1 + N ≤ R.cells) (hs : slots + N + N * M ≤ R.slots) :
    ∃ (vm : Vm) (cO cI : ClassId) (F : State), s.vm.findClass "[[I" = some cO ∧ s.vm.findClass "[I" = some cI ∧ mnP p l e R s m args below meth c A cO cI N M vm T.heap cells slots N F ∧ ∀ t, Steps p.tables e below (F.setTop { g with pc := g.pc + 4, stack := .ref T.heap.size :: rest }) t → Steps p.tables e below (T.setTop g) t := by
  subst hg
  have hpl : e.platform.magicAccessors = ({} : Platform).magicAccessors := by rw [X.admits.platform]
  obtain ⟨cI, cO, kO, f1, -, hkO, hkO2, f2⟩ := ao_spec hov
  obtain ⟨cI', kI, comp, f3, hkI, hkI2⟩ := Cond.arrayClass_spec har
  cases (show s.vm.findClass "[I" = some cI from f1).symm.trans (show s.vm.findClass "[I" = some cI' from f3)
  obtain ⟨cO', f4, hln⟩ := Cond.classLink_spec hown hcl e.platform hpl
  cases (show s.vm.findClass "[[I" = some cO from f2).symm.trans f4
  obtain ⟨hgv, hwarm, -⟩ := State.classEntry (e := e) X.warmed hln
  have hsz : (T.vm.noted g.method.cls idx (.cls cO)).classes.size ≤ T.vm.classes.size := by no_record
  generalize T.vm.noted g.method.cls idx (.cls cO) = vm at hgv hwarm hsz
  obtain ⟨kO1, hkO1, eO⟩ := hwarm.alike.2.2 _ _ hkO
  obtain ⟨kI1, hkI1, eI⟩ := hwarm.alike.2.2 _ _ hkI
  have hkO3 : kO1.kind = .array cI (.array .int) := by rw [eO]; exact hkO2
  have hkI3 : kI1.kind = .array comp .int := by rw [eI]; exact hkI2
  have hal := Launch.admits_arrayLengthLimit X.admits
  have hmh := Launch.admits_maxHeapBytes X.admits
  have hK : mnK e R A cO cI N M vm T.heap cells slots y := ⟨⟨kO1, hkO1, hkO3⟩, ⟨kI1, comp, hkI1, hkI3⟩, hy, hyM, by omega, by omega, hA, hc, hs⟩
  obtain ⟨r1, r2⟩ := X.roomAbove (a := 1) (b := N) (by omega) (by omega)
  have e0 : arrV cO N (fun _ => .null) = arrV cO N (fun j => va_rf (if j < 0 then some (T.heap.size + 1 + j) else none)) := congrArg (arrV cO N) (funext fun j => by simp [va_rf])
  have X1 := (X.noted hwarm).pushed (arrV cO N (fun _ => .null))
  rw [mn_sz] at X1
  have h0 : mnP p l e R s g.method args below meth c A cO cI N M vm T.heap cells slots 0 ((T.setVm vm).pushCell (arrV cO N (fun _ => .null))) := by
    refine ⟨⟨locs, by rw [Nat.zero_mul]; exact X1, hS.grow (by show _ ≤ (T.heap.push _).size; rw [Array.size_push]; omega) (fun q hq => mn_pu hq)⟩, rfl, by show (T.heap.push _).size = _; rw [Array.size_push], fun q hq => mn_pu hq, fun j hj => absurd hj (Nat.not_lt_zero j), ?_⟩
    show (T.heap.push _)[T.heap.size]? = _
    rw [Array.getElem?_push_size, e0]
  obtain ⟨F, hF, w⟩ := mn_loop hK N 0 _ (by omega) h0
  rw [Nat.zero_add] at hF
  refine ⟨vm, cO, cI, F, f4, f1, hF, fun t hrest => ?_⟩
  refine Steps.instr (c := c) X.here ?_
  rw [hd, hexec]
  show Jvm.Sem.wp (Jvm.Op.multianewarray.sem idx 2) _ _ e false [] (T.setTop g)
  unfold Jvm.Op.multianewarray.sem
  rw [Jvm.Sem.wp_bind']
  refine (Jvm.W.resolveClassAt_links (State.method?_setTop g X.here.top) hgv hsz).mpr ?_
  rw [Jvm.Sem.wp_bind']
  refine (Jvm.Op.popN_top (s := T.setVm vm) (f := g) (args := [.int x, .int y]) (rest := rest) X.here.top hst).mpr ?_
  simp only [List.mapM_cons, List.mapM_nil, Jvm.Sem.wp_bind', Jvm.Sem.wp_pure']
  rw [Jvm.Op.multianewarray.make]
  have hfind : [y].find? (fun z => decide (z < 0)) = none := by simp [hy]
  simp only [Jvm.Sem.wp_bind', Jvm.W.ite, hx, if_false, Jvm.Sem.wp_pure', Jvm.W.theClass, State.vm_setTop, State.vm_setVm, hkO1, Option.some.injEq, exists_eq_left', hkO3, hfind, ite_self]
  refine Jvm.W.newArray_of (s := (T.setVm vm).setTop { g with stack := rest }) hkO1 hkO3 (by rw [hxN]; omega) (by rw [hxN]; show ¬ N * 4 > _; omega) (show T.heap.size < _ by omega) (show T.slotsUsed + _ ≤ _ by rw [hxN]; exact r2) rfl fun acts1 => ?_
  rw [Std.Legacy.Range.forIn_eq_forIn_range', hxN, arrV_new]
  simp only [Std.Legacy.Range.size, Nat.sub_zero, Nat.add_sub_cancel, Nat.div_one]
  rw [Jvm.Sem.wp_bind']
  refine w { g with stack := rest } _ (fun j => rfl) _ _ _ _ (fun d' acts' => ?_)
  · simp only [Jvm.Sem.wp_bind', Jvm.Sem.wp_pure', Jvm.W.mark, Jvm.W.pushRef]
    refine ⟨{ g with stack := rest }, State.topJava?_setTop' _ ?_, fun acts => ?_⟩
    · obtain ⟨⟨locs', X', -⟩, -⟩ := hF
      exact X'.here.top
    · rw [State.setTop_setTop, afterInstr_ok]
      exact hrest
end Mna
section Rows
variable {C : CT} {l : Launch} {K : KT} {R : RT} {Po : PoT} {pc pc' : Nat} {L L' : LT} {st : List Value} {S S' : ShT} {I I' : DI} {J J' : DJ} {u : Nat × Nat}
theorem v_mna {N M idx : Nat} {x y : Int32} (hd : decode K.1 pc = .ok (.multianewarray idx 2, 4)) (hw1 : Wd (.classLink K.2.1 idx "[[I")) (hw2 : Cond.arrayOver (.array .int) ∈ lw_tbl) (hw3 : Wd (.arrayClass .int)) (hx : x = nI N) (hy : y = nI M) (hN : N ≤ 1000) (hM1 : M ≤ 1000) (hu : u.1 + (1 + N) ≤ R.2.1 ∧ u.2 + (N + N * M) ≤ R.2.2) (hp : pc + 4 = pc')
    (kk : V C l K R Po pc' L (.ref S.1 :: st) (ad2 S N M) (zf I S.1 0) (zf J S.1 0) (u.1 + 1 + N, u.2 + N + N * M)) : V C l K R Po pc L (.int y :: .int x :: st) S I J u := by
  intro p e s m args below meth c hI H ls locs hM hL hS h1 h2 T hT X
  subst hT
  subst hp
  obtain ⟨hC, hx0, hb, hr, hml, hown, hlk, hh, hG, ⟨S0, I0, J0, hM0⟩, hnm⟩ := id hI
  have cx : x.toNatClampNeg = N := by rw [hx]; exact nI_clamp (by omega)
  have cy : y.toNatClampNeg = M := by rw [hy]; exact nI_clamp (by omega)
  have hRA : s.vm.findClass "[I" = some (cA C 32) := (hG.arr hC (t := 32) (by omega)).2
  have hRA2 : s.vm.findClass "[[I" = some (cA C 37) := (hG.arr hC (t := 37) (by omega)).2
  obtain ⟨vm₁, cA1, comp, F, fA1, fC, ⟨⟨locs2, X', hS2⟩, -, f1, hold, hrow, f2⟩, step⟩ := mn_all (g := F0 m pc ls ((.int y :: .int x :: st).map (cv C))) (x := x) (y := y) (rest := st.map (cv C)) (A := AX C) (N := N) (M := M) X hS hx0 hown (hw1.at hC hG.1 args) (ao_moved hG.1.alike (hC.2.1 _ hw2)) (hw3.at hC hG.1 args) rfl (by rw [hb]; exact hd) rfl (by rw [hx]; exact nI_pos (by omega)) (by rw [hy]; exact nI_pos (by omega)) cx cy hN hM1 hM.z (by show u.1 + 1 + N ≤ R.2.1; omega) (by show u.2 + N + N * M ≤ R.2.2; omega)
  cases hRA.symm.trans fC
  cases hRA2.symm.trans fA1
  have hMR : MR C (ad2 S N M) (zf I S.1 0) (zf J S.1 0) F.heap := by
    refine hM.grow (by rw [f1, hM.1]; show c0 C + S.1 + 1 + N = c0 C + (S.1 + 1 + N); omega) hold (fun k hk => ⟨?_, ?_, zf_lt hk, zf_lt hk⟩) (fun k g1 g2 => ?_)
    · show (if k = S.1 then _ else if S.1 < k then _ else _) = _
      rw [if_neg (by omega), if_neg (by omega)]
    · funext j
      show (if k = S.1 then _ else zf S.2.2 S.1 none k j) = _
      rw [if_neg (by omega), zf_lt hk]
    · have g2 : k < S.1 + 1 + N := g2
      by_cases e0 : k = S.1
      · subst e0
        rw [cel_a (t := 37) (n := N) (by show (if S.1 = S.1 then _ else _ : Nat × Nat) = _; rw [if_pos rfl]) (by omega)]
        show F.heap[c0 C + S.1]? = some (vp_cell _ _)
        rw [← hM.1, f2, vcq (by omega)]
        congr 2
        funext j
        show _ = va_rf ((if S.1 = S.1 then (if j < N then some (S.1 + 1 + j) else none) else _ : Option Nat).map _)
        rw [if_pos rfl]
        by_cases hj : j < N
        · rw [if_pos hj, if_pos hj, hM.1]
          exact congrArg Value.ref (show c0 C + S.1 + 1 + j = c0 C + (S.1 + 1 + j) by omega)
        · rw [if_neg hj, if_neg hj]
          rfl
      · rw [cel_a (t := 32) (n := M) (by show (if k = S.1 then _ else if S.1 < k then _ else _ : Nat × Nat) = _; rw [if_neg e0, if_pos (by omega)]) (by omega)]
        show F.heap[c0 C + k]? = some (vp_cell _ _)
        have := hrow (k - S.1 - 1) (by omega)
        rw [show T.heap.size + 1 + (k - S.1 - 1) = c0 C + k by rw [hM.1]; omega] at this
        rw [this, vc32]
        congr 2
        funext j
        rw [zf_ge g1]
  obtain ⟨t, a1, b1⟩ := kk p e s m args below meth c hI F.heap ls locs2 hMR hL hS2 (by have := hu.1; show u.1 + 1 + N ≤ _; omega) (by have := hu.2; show u.2 + N + N * M ≤ _; omega) F rfl X'
  refine ⟨t, step t ?_, b1⟩
  have hsz : T.heap.size = c0 C + S.1 := hM.1
  rw [hsz]
  exact a1
end Rows
end
