theorem tb_mem {w : Cond} (i : Nat) (h : lw_tbl[i]? = some w) (hg : goodWord w = true) : w ∈ tb_W := List.mem_filter.mpr ⟨List.mem_of_getElem? h, hg⟩
theorem tb_mm {w : Cond} (h : w ∈ tables_1) (hg : goodWord w = true) : w ∈ tb_W := List.mem_filter.mpr ⟨List.mem_append_right _ h, hg⟩
theorem tb_mp {q : MethodName × Nat} {L : List (MethodName × Nat)} (hL : ∀ q ∈ L, q ∈ lw_privs) (h : q ∈ L) (hg : goodWord (Cond.selects q.1.cls q.1 q.1) = true) : Cond.selects q.1.cls q.1 q.1 ∈ tb_W := List.mem_filter.mpr ⟨List.mem_append_left _ (List.mem_map.mpr ⟨q, hL q h, rfl⟩), hg⟩
theorem tb_cw {C : String} {T : u_T} {N : Nat} (ws : List Cond) (e : u_ws C T N = ws) (h : ∀ w ∈ ws, w ∈ tb_W) : ∀ w ∈ u_ws C T N, w ∈ tb_W := by rw [e]; exact h
theorem tp_1 : ∀ q ∈ lw_privs_1, q ∈ lw_privs := fun q h => by
  show q ∈ lw_privs_1 ++ (lw_privs_2 ++ (lw_privs_3 ++ (lw_privs_4 ++ (lw_privs_5 ++ (lw_privs_6 ++ (lw_privs_7 ++ (lw_privs_8 ++ (lw_privs_9 ++ (lw_privs_10)))))))))
  exact List.mem_append_left _ h
theorem tp_2 : ∀ q ∈ lw_privs_2, q ∈ lw_privs := fun q h => by
  show q ∈ lw_privs_1 ++ (lw_privs_2 ++ (lw_privs_3 ++ (lw_privs_4 ++ (lw_privs_5 ++ (lw_privs_6 ++ (lw_privs_7 ++ (lw_privs_8 ++ (lw_privs_9 ++ (lw_privs_10)))))))))
  exact List.mem_append_right _ (List.mem_append_left _ h)
theorem tp_3 : ∀ q ∈ lw_privs_3, q ∈ lw_privs := fun q h => by
  show q ∈ lw_privs_1 ++ (lw_privs_2 ++ (lw_privs_3 ++ (lw_privs_4 ++ (lw_privs_5 ++ (lw_privs_6 ++ (lw_privs_7 ++ (lw_privs_8 ++ (lw_privs_9 ++ (lw_privs_10)))))))))
  exact List.mem_append_right _ (List.mem_append_right _ (List.mem_append_left _ h))
theorem tp_4 : ∀ q ∈ lw_privs_4, q ∈ lw_privs := fun q h => by
  show q ∈ lw_privs_1 ++ (lw_privs_2 ++ (lw_privs_3 ++ (lw_privs_4 ++ (lw_privs_5 ++ (lw_privs_6 ++ (lw_privs_7 ++ (lw_privs_8 ++ (lw_privs_9 ++ (lw_privs_10)))))))))
  exact List.mem_append_right _ (List.mem_append_right _ (List.mem_append_right _ (List.mem_append_left _ h)))
theorem tp_5 : ∀ q ∈ lw_privs_5, q ∈ lw_privs := fun q h => by
  show q ∈ lw_privs_1 ++ (lw_privs_2 ++ (lw_privs_3 ++ (lw_privs_4 ++ (lw_privs_5 ++ (lw_privs_6 ++ (lw_privs_7 ++ (lw_privs_8 ++ (lw_privs_9 ++ (lw_privs_10)))))))))
  exact List.mem_append_right _ (List.mem_append_right _ (List.mem_append_right _ (List.mem_append_right _ (List.mem_append_left _ h))))
theorem tp_6 : ∀ q ∈ lw_privs_6, q ∈ lw_privs := fun q h => by
  show q ∈ lw_privs_1 ++ (lw_privs_2 ++ (lw_privs_3 ++ (lw_privs_4 ++ (lw_privs_5 ++ (lw_privs_6 ++ (lw_privs_7 ++ (lw_privs_8 ++ (lw_privs_9 ++ (lw_privs_10)))))))))
  exact List.mem_append_right _ (List.mem_append_right _ (List.mem_append_right _ (List.mem_append_right _ (List.mem_append_right _ (List.mem_append_left _ h)))))
theorem tp_7 : ∀ q ∈ lw_privs_7, q ∈ lw_privs := fun q h => by
  show q ∈ lw_privs_1 ++ (lw_privs_2 ++ (lw_privs_3 ++ (lw_privs_4 ++ (lw_privs_5 ++ (lw_privs_6 ++ (lw_privs_7 ++ (lw_privs_8 ++ (lw_privs_9 ++ (lw_privs_10)))))))))
  exact List.mem_append_right _ (List.mem_append_right _ (List.mem_append_right _ (List.mem_append_right _ (List.mem_append_right _ (List.mem_append_right _ (List.mem_append_left _ h))))))
theorem tp_8 : ∀ q ∈ lw_privs_8, q ∈ lw_privs := fun q h => by
  show q ∈ lw_privs_1 ++ (lw_privs_2 ++ (lw_privs_3 ++ (lw_privs_4 ++ (lw_privs_5 ++ (lw_privs_6 ++ (lw_privs_7 ++ (lw_privs_8 ++ (lw_privs_9 ++ (lw_privs_10)))))))))
  exact List.mem_append_right _ (List.mem_append_right _ (List.mem_append_right _ (List.mem_append_right _ (List.mem_append_right _ (List.mem_append_right _ (List.mem_append_right _ (List.mem_append_left _ h)))))))
theorem tp_9 : ∀ q ∈ lw_privs_9, q ∈ lw_privs := fun q h => by
  show q ∈ lw_privs_1 ++ (lw_privs_2 ++ (lw_privs_3 ++ (lw_privs_4 ++ (lw_privs_5 ++ (lw_privs_6 ++ (lw_privs_7 ++ (lw_privs_8 ++ (lw_privs_9 ++ (lw_privs_10)))))))))
  exact List.mem_append_right _ (List.mem_append_right _ (List.mem_append_right _ (List.mem_append_right _ (List.mem_append_right _ (List.mem_append_right _ (List.mem_append_right _ (List.mem_append_right _ (List.mem_append_left _ h))))))))
theorem tp_10 : ∀ q ∈ lw_privs_10, q ∈ lw_privs := fun q h => by
  show q ∈ lw_privs_1 ++ (lw_privs_2 ++ (lw_privs_3 ++ (lw_privs_4 ++ (lw_privs_5 ++ (lw_privs_6 ++ (lw_privs_7 ++ (lw_privs_8 ++ (lw_privs_9 ++ (lw_privs_10)))))))))
  exact List.mem_append_right _ (List.mem_append_right _ (List.mem_append_right _ (List.mem_append_right _ (List.mem_append_right _ (List.mem_append_right _ (List.mem_append_right _ (List.mem_append_right _ (List.mem_append_right _ (h)))))))))
set_option maxRecDepth 10000 in
theorem cl_0 : tb_CL 0 RX0 TX0 7 := ⟨rfl, tb_cw [.laysFinal "TermBank$Core" "TermBank$Core" "terms" "LTermBank$Terms;", .laysFinal "TermBank$Core" "TermBank$Core" "ledger" "LTermBank$Ledger;", .laysFinal "TermBank$Core" "TermBank$Core" "undoRows" "[[I", .laysFinal "TermBank$Core" "TermBank$Core" "before" "[I", .laysFinal "TermBank$Core" "TermBank$Core" "status" "[I", .lays "TermBank$Core" "TermBank$Core" "firstAct" "I", .lays "TermBank$Core" "TermBank$Core" "acts" "I"] rfl (List.forall_mem_cons.mpr ⟨(tb_mm tw_1_11.2.2.2.2.2.2.2.2.1 rfl), List.forall_mem_cons.mpr ⟨(tb_mm tw_1_11.2.2.2.2.2.2.2.2.2.1 rfl), List.forall_mem_cons.mpr ⟨(tb_mm tw_1_11.2.2.2.2.2.2.2.2.2.2.1 rfl), List.forall_mem_cons.mpr ⟨(tb_mm tw_1_11.2.2.2.2.2.2.2.2.2.2.2 rfl), List.forall_mem_cons.mpr ⟨(tb_mm tw_1_12.1 rfl), List.forall_mem_cons.mpr ⟨(tb_mm tw_1_12.2.1 rfl), List.forall_mem_cons.mpr ⟨(tb_mm tw_1_12.2.2.1 rfl), List.forall_mem_nil _⟩⟩⟩⟩⟩⟩⟩), by decide +kernel, nmX0, by decide, by decide +kernel⟩
set_option maxRecDepth 10000 in
theorem cl_1 : tb_CL 1 RX1 TX1 1 := ⟨rfl, tb_cw [.laysFinal "TermBank$Ledger" "TermBank$Ledger" "cells" "[I"] rfl (List.forall_mem_cons.mpr ⟨(tb_mm tw_1_9.2.2.2.2.2.2.2.2.2.2.2.2.2 rfl), List.forall_mem_nil _⟩), by decide +kernel, nmX1, by decide, by decide +kernel⟩
set_option maxRecDepth 10000 in
theorem cl_2 : tb_CL 2 RX2 TX2 6 := ⟨rfl, tb_cw [.laysFinal "TermBank$Maker" "TermBank$Maker" "terms" "LTermBank$Terms;", .laysFinal "TermBank$Maker" "TermBank$Maker" "closedTerms" "[I", .laysFinal "TermBank$Maker" "TermBank$Maker" "coupleFirst" "[I", .laysFinal "TermBank$Maker" "TermBank$Maker" "coupleSecond" "[I", .lays "TermBank$Maker" "TermBank$Maker" "couples" "I", .lays "TermBank$Maker" "TermBank$Maker" "seed" "I"] rfl (List.forall_mem_cons.mpr ⟨(tb_mm tw_1_14.2.2.2.1 rfl), List.forall_mem_cons.mpr ⟨(tb_mm tw_1_14.2.2.2.2.1 rfl), List.forall_mem_cons.mpr ⟨(tb_mm tw_1_14.2.2.2.2.2.1 rfl), List.forall_mem_cons.mpr ⟨(tb_mm tw_1_14.2.2.2.2.2.2.1 rfl), List.forall_mem_cons.mpr ⟨(tb_mm tw_1_14.2.2.2.2.2.2.2.1 rfl), List.forall_mem_cons.mpr ⟨(tb_mm tw_1_14.2.2.2.2.2.2.2.2 rfl), List.forall_mem_nil _⟩⟩⟩⟩⟩⟩), by decide +kernel, nmX2, by decide, by decide +kernel⟩
set_option maxRecDepth 10000 in
theorem cl_3 : tb_CL 3 RX3 TX3 2 := ⟨rfl, tb_cw [.laysFinal "TermBank$Matcher" "TermBank$Matcher" "terms" "LTermBank$Terms;", .laysFinal "TermBank$Matcher" "TermBank$Matcher" "got" "[I"] rfl (List.forall_mem_cons.mpr ⟨(tb_mm tw_1_13.2.1 rfl), List.forall_mem_cons.mpr ⟨(tb_mm tw_1_13.2.2.1 rfl), List.forall_mem_nil _⟩⟩), by decide +kernel, nmX3, by decide, by decide +kernel⟩
set_option maxRecDepth 10000 in
theorem cl_4 : tb_CL 4 RX4 TX4 5 := ⟨rfl, tb_cw [.laysFinal "TermBank$Ordering" "TermBank$Ordering" "terms" "LTermBank$Terms;", .laysFinal "TermBank$Ordering" "TermBank$Ordering" "balance" "[I", .lays "TermBank$Ordering" "TermBank$Ordering" "weight" "I", .lays "TermBank$Ordering" "TermBank$Ordering" "triedSymbol" "I", .lays "TermBank$Ordering" "TermBank$Ordering" "triedWeight" "I"] rfl (List.forall_mem_cons.mpr ⟨(tb_mm tw_2_3.2.2.2.2.2.2.2.2.1 rfl), List.forall_mem_cons.mpr ⟨(tb_mm tw_2_3.2.2.2.2.2.2.2.2.2.1 rfl), List.forall_mem_cons.mpr ⟨(tb_mm tw_2_3.2.2.2.2.2.2.2.2.2.2.1 rfl), List.forall_mem_cons.mpr ⟨(tb_mm tw_2_3.2.2.2.2.2.2.2.2.2.2.2 rfl), List.forall_mem_cons.mpr ⟨(tb_mm tw_2_4.1 rfl), List.forall_mem_nil _⟩⟩⟩⟩⟩), by decide +kernel, nmX4, by decide, by decide +kernel⟩
set_option maxRecDepth 10000 in
theorem cl_5 : tb_CL 5 RX5 TX5 11 := ⟨rfl, tb_cw [.laysFinal "TermBank$Reader" "TermBank$Reader" "tape" "[I", .laysFinal "TermBank$Reader" "TermBank$Reader" "core" "LTermBank$Core;", .laysFinal "TermBank$Reader" "TermBank$Reader" "symbols" "LTermBank$Symbols;", .laysFinal "TermBank$Reader" "TermBank$Reader" "rulebook" "LTermBank$Rulebook;", .lays "TermBank$Reader" "TermBank$Reader" "length" "I", .lays "TermBank$Reader" "TermBank$Reader" "kind" "I", .lays "TermBank$Reader" "TermBank$Reader" "start" "I", .lays "TermBank$Reader" "TermBank$Reader" "end" "I", .lays "TermBank$Reader" "TermBank$Reader" "fault" "I", .lays "TermBank$Reader" "TermBank$Reader" "faultAt" "I", .lays "TermBank$Reader" "TermBank$Reader" "roomTold" "Z"] rfl (List.forall_mem_cons.mpr ⟨(tb_mm tw_2_8.2.2.2.2.2.2.2.2.2.2.1 rfl), List.forall_mem_cons.mpr ⟨(tb_mm tw_2_8.2.2.2.2.2.2.2.2.2.2.2.1 rfl), List.forall_mem_cons.mpr ⟨(tb_mm tw_2_8.2.2.2.2.2.2.2.2.2.2.2.2 rfl), List.forall_mem_cons.mpr ⟨(tb_mm tw_2_9.1 rfl), List.forall_mem_cons.mpr ⟨(tb_mm tw_2_9.2.1 rfl), List.forall_mem_cons.mpr ⟨(tb_mm tw_2_9.2.2.1 rfl), List.forall_mem_cons.mpr ⟨(tb_mm tw_2_9.2.2.2.1 rfl), List.forall_mem_cons.mpr ⟨(tb_mm tw_2_9.2.2.2.2.1 rfl), List.forall_mem_cons.mpr ⟨(tb_mm tw_2_9.2.2.2.2.2.1 rfl), List.forall_mem_cons.mpr ⟨(tb_mm tw_2_9.2.2.2.2.2.2.1 rfl), List.forall_mem_cons.mpr ⟨(tb_mm tw_2_9.2.2.2.2.2.2.2 rfl), List.forall_mem_nil _⟩⟩⟩⟩⟩⟩⟩⟩⟩⟩⟩), by decide +kernel, nmX5, by decide, by decide +kernel⟩
set_option maxRecDepth 10000 in
theorem cl_6 : tb_CL 6 RX6 TX6 9 := ⟨rfl, tb_cw [.laysFinal "TermBank$Rewriter" "TermBank$Rewriter" "core" "LTermBank$Core;", .laysFinal "TermBank$Rewriter" "TermBank$Rewriter" "terms" "LTermBank$Terms;", .laysFinal "TermBank$Rewriter" "TermBank$Rewriter" "matcher" "LTermBank$Matcher;", .laysFinal "TermBank$Rewriter" "TermBank$Rewriter" "maker" "LTermBank$Maker;", .laysFinal "TermBank$Rewriter" "TermBank$Rewriter" "asked" "[I", .laysFinal "TermBank$Rewriter" "TermBank$Rewriter" "stages" "[I", .laysFinal "TermBank$Rewriter" "TermBank$Rewriter" "parts" "[I", .lays "TermBank$Rewriter" "TermBank$Rewriter" "height" "I", .lays "TermBank$Rewriter" "TermBank$Rewriter" "stepsLeft" "I"] rfl (List.forall_mem_cons.mpr ⟨(tb_mm tw_2_6.2.2.2.2.2.2.1 rfl), List.forall_mem_cons.mpr ⟨(tb_mm tw_2_6.2.2.2.2.2.2.2.1 rfl), List.forall_mem_cons.mpr ⟨(tb_mm tw_2_6.2.2.2.2.2.2.2.2.1 rfl), List.forall_mem_cons.mpr ⟨(tb_mm tw_2_6.2.2.2.2.2.2.2.2.2.1 rfl), List.forall_mem_cons.mpr ⟨(tb_mm tw_2_6.2.2.2.2.2.2.2.2.2.2 rfl), List.forall_mem_cons.mpr ⟨(tb_mm tw_2_7.1 rfl), List.forall_mem_cons.mpr ⟨(tb_mm tw_2_7.2.1 rfl), List.forall_mem_cons.mpr ⟨(tb_mm tw_2_7.2.2.1 rfl), List.forall_mem_cons.mpr ⟨(tb_mm tw_2_7.2.2.2.1 rfl), List.forall_mem_nil _⟩⟩⟩⟩⟩⟩⟩⟩⟩), by decide +kernel, nmX6, by decide, by decide +kernel⟩
set_option maxRecDepth 10000 in
theorem cl_7 : tb_CL 7 RX7 TX7 5 := ⟨rfl, tb_cw [.laysFinal "TermBank$Rulebook" "TermBank$Rulebook" "core" "LTermBank$Core;", .laysFinal "TermBank$Rulebook" "TermBank$Rulebook" "terms" "LTermBank$Terms;", .laysFinal "TermBank$Rulebook" "TermBank$Rulebook" "matcher" "LTermBank$Matcher;", .laysFinal "TermBank$Rulebook" "TermBank$Rulebook" "unifier" "LTermBank$Unifier;", .laysFinal "TermBank$Rulebook" "TermBank$Rulebook" "ordering" "LTermBank$Ordering;"] rfl (List.forall_mem_cons.mpr ⟨(tb_mm tw_2_4.2.2.2.2.2.2.2.2.2.2.1 rfl), List.forall_mem_cons.mpr ⟨(tb_mm tw_2_4.2.2.2.2.2.2.2.2.2.2.2 rfl), List.forall_mem_cons.mpr ⟨(tb_mm tw_2_5.1 rfl), List.forall_mem_cons.mpr ⟨(tb_mm tw_2_5.2.1 rfl), List.forall_mem_cons.mpr ⟨(tb_mm tw_2_5.2.2.1 rfl), List.forall_mem_nil _⟩⟩⟩⟩⟩), by decide +kernel, nmX7, by decide, by decide +kernel⟩
set_option maxRecDepth 10000 in
theorem cl_8 : tb_CL 8 RX8 TX8 4 := ⟨rfl, tb_cw [.laysFinal "TermBank$Symbols" "TermBank$Symbols" "names" "[I", .laysFinal "TermBank$Symbols" "TermBank$Symbols" "arities" "[I", .laysFinal "TermBank$Symbols" "TermBank$Symbols" "weights" "[I", .lays "TermBank$Symbols" "TermBank$Symbols" "told" "I"] rfl (List.forall_mem_cons.mpr ⟨(tb_mm tw_1_3.2.2.2.2.2.2.2.1 rfl), List.forall_mem_cons.mpr ⟨(tb_mm tw_1_3.2.2.2.2.2.2.2.2.1 rfl), List.forall_mem_cons.mpr ⟨(tb_mm tw_1_3.2.2.2.2.2.2.2.2.2.1 rfl), List.forall_mem_cons.mpr ⟨(tb_mm tw_1_3.2.2.2.2.2.2.2.2.2.2 rfl), List.forall_mem_nil _⟩⟩⟩⟩), by decide +kernel, nmX8, by decide, by decide +kernel⟩
set_option maxRecDepth 10000 in
theorem cl_9 : tb_CL 9 RX9 TX9 13 := ⟨rfl, tb_cw [.laysFinal "TermBank$Terms" "TermBank$Terms" "symbols" "LTermBank$Symbols;", .laysFinal "TermBank$Terms" "TermBank$Terms" "heads" "[I", .laysFinal "TermBank$Terms" "TermBank$Terms" "arities" "[I", .laysFinal "TermBank$Terms" "TermBank$Terms" "arguments" "[I", .laysFinal "TermBank$Terms" "TermBank$Terms" "sizes" "[I", .laysFinal "TermBank$Terms" "TermBank$Terms" "weights" "[I", .laysFinal "TermBank$Terms" "TermBank$Terms" "depths" "[I", .laysFinal "TermBank$Terms" "TermBank$Terms" "variables" "[I", .laysFinal "TermBank$Terms" "TermBank$Terms" "shapes" "[I", .laysFinal "TermBank$Terms" "TermBank$Terms" "chains" "[I", .laysFinal "TermBank$Terms" "TermBank$Terms" "buckets" "[I", .laysFinal "TermBank$Terms" "TermBank$Terms" "marks" "[I", .lays "TermBank$Terms" "TermBank$Terms" "there" "I"] rfl (List.forall_mem_cons.mpr ⟨(tb_mm tw_1_7.2.2.1 rfl), List.forall_mem_cons.mpr ⟨(tb_mm tw_1_7.2.2.2.1 rfl), List.forall_mem_cons.mpr ⟨(tb_mm tw_1_7.2.2.2.2.1 rfl), List.forall_mem_cons.mpr ⟨(tb_mm tw_1_7.2.2.2.2.2.1 rfl), List.forall_mem_cons.mpr ⟨(tb_mm tw_1_7.2.2.2.2.2.2.1 rfl), List.forall_mem_cons.mpr ⟨(tb_mm tw_1_7.2.2.2.2.2.2.2.1 rfl), List.forall_mem_cons.mpr ⟨(tb_mm tw_1_7.2.2.2.2.2.2.2.2 rfl), List.forall_mem_cons.mpr ⟨(tb_mm tw_1_8.1 rfl), List.forall_mem_cons.mpr ⟨(tb_mm tw_1_8.2.1 rfl), List.forall_mem_cons.mpr ⟨(tb_mm tw_1_8.2.2.1 rfl), List.forall_mem_cons.mpr ⟨(tb_mm tw_1_8.2.2.2.1 rfl), List.forall_mem_cons.mpr ⟨(tb_mm tw_1_8.2.2.2.2.1 rfl), List.forall_mem_cons.mpr ⟨(tb_mm tw_1_8.2.2.2.2.2.1 rfl), List.forall_mem_nil _⟩⟩⟩⟩⟩⟩⟩⟩⟩⟩⟩⟩⟩), by decide +kernel, nmX9, by decide, by decide +kernel⟩
set_option maxRecDepth 10000 in
theorem cl_10 : tb_CL 10 RX10 TX10 12 := ⟨rfl, tb_cw [.laysFinal "TermBank$Unifier" "TermBank$Unifier" "terms" "LTermBank$Terms;", .laysFinal "TermBank$Unifier" "TermBank$Unifier" "rounds" "[I", .laysFinal "TermBank$Unifier" "TermBank$Unifier" "parents" "[I", .laysFinal "TermBank$Unifier" "TermBank$Unifier" "solid" "[I", .laysFinal "TermBank$Unifier" "TermBank$Unifier" "least" "[I", .laysFinal "TermBank$Unifier" "TermBank$Unifier" "solved" "[I", .laysFinal "TermBank$Unifier" "TermBank$Unifier" "pairFirst" "[I", .laysFinal "TermBank$Unifier" "TermBank$Unifier" "pairSecond" "[I", .laysFinal "TermBank$Unifier" "TermBank$Unifier" "listed" "[I", .laysFinal "TermBank$Unifier" "TermBank$Unifier" "uses" "[I", .lays "TermBank$Unifier" "TermBank$Unifier" "round" "I", .lays "TermBank$Unifier" "TermBank$Unifier" "pairs" "I"] rfl (List.forall_mem_cons.mpr ⟨(tb_mm tw_2_1.2.2.1 rfl), List.forall_mem_cons.mpr ⟨(tb_mm tw_2_1.2.2.2.1 rfl), List.forall_mem_cons.mpr ⟨(tb_mm tw_2_1.2.2.2.2.1 rfl), List.forall_mem_cons.mpr ⟨(tb_mm tw_2_1.2.2.2.2.2.1 rfl), List.forall_mem_cons.mpr ⟨(tb_mm tw_2_1.2.2.2.2.2.2.1 rfl), List.forall_mem_cons.mpr ⟨(tb_mm tw_2_1.2.2.2.2.2.2.2.1 rfl), List.forall_mem_cons.mpr ⟨(tb_mm tw_2_1.2.2.2.2.2.2.2.2 rfl), List.forall_mem_cons.mpr ⟨(tb_mm tw_2_2.1 rfl), List.forall_mem_cons.mpr ⟨(tb_mm tw_2_2.2.1 rfl), List.forall_mem_cons.mpr ⟨(tb_mm tw_2_2.2.2.1 rfl), List.forall_mem_cons.mpr ⟨(tb_mm tw_2_2.2.2.2.1 rfl), List.forall_mem_cons.mpr ⟨(tb_mm tw_2_2.2.2.2.2.1 rfl), List.forall_mem_nil _⟩⟩⟩⟩⟩⟩⟩⟩⟩⟩⟩⟩), by decide +kernel, nmX10, by decide, by decide +kernel⟩
set_option maxRecDepth 10000 in
theorem cl_11 : tb_CL 11 RX11 TX11 16 := ⟨rfl, tb_cw [.laysFinal "TermBank" "TermBank" "symbols" "LTermBank$Symbols;", .laysFinal "TermBank" "TermBank" "core" "LTermBank$Core;", .laysFinal "TermBank" "TermBank" "kept" "LTermBank$Core;", .laysFinal "TermBank" "TermBank" "spareSymbols" "LTermBank$Symbols;", .laysFinal "TermBank" "TermBank" "spareTerms" "LTermBank$Terms;", .laysFinal "TermBank" "TermBank" "spareLedger" "LTermBank$Ledger;", .laysFinal "TermBank" "TermBank" "matcher" "LTermBank$Matcher;", .laysFinal "TermBank" "TermBank" "maker" "LTermBank$Maker;", .laysFinal "TermBank" "TermBank" "unifier" "LTermBank$Unifier;", .laysFinal "TermBank" "TermBank" "rulebook" "LTermBank$Rulebook;", .laysFinal "TermBank" "TermBank" "rewriter" "LTermBank$Rewriter;", .laysFinal "TermBank" "TermBank" "reader" "LTermBank$Reader;", .laysFinal "TermBank" "TermBank" "tape" "[I", .lays "TermBank" "TermBank" "taped" "I", .lays "TermBank" "TermBank" "faultPlace" "I", .lays "TermBank" "TermBank" "hasImage" "Z"] rfl (List.forall_mem_cons.mpr ⟨(tb_mm tw_2_11.2.1 rfl), List.forall_mem_cons.mpr ⟨(tb_mm tw_2_11.2.2.1 rfl), List.forall_mem_cons.mpr ⟨(tb_mm tw_2_11.2.2.2.1 rfl), List.forall_mem_cons.mpr ⟨(tb_mm tw_2_11.2.2.2.2.1 rfl), List.forall_mem_cons.mpr ⟨(tb_mm tw_2_11.2.2.2.2.2.1 rfl), List.forall_mem_cons.mpr ⟨(tb_mm tw_2_11.2.2.2.2.2.2.1 rfl), List.forall_mem_cons.mpr ⟨(tb_mm tw_2_11.2.2.2.2.2.2.2.1 rfl), List.forall_mem_cons.mpr ⟨(tb_mm tw_2_11.2.2.2.2.2.2.2.2 rfl), List.forall_mem_cons.mpr ⟨(tb_mm tw_2_12.1 rfl), List.forall_mem_cons.mpr ⟨(tb_mm tw_2_12.2.1 rfl), List.forall_mem_cons.mpr ⟨(tb_mm tw_2_12.2.2.1 rfl), List.forall_mem_cons.mpr ⟨(tb_mm tw_2_12.2.2.2.1 rfl), List.forall_mem_cons.mpr ⟨(tb_mm tw_2_12.2.2.2.2.1 rfl), List.forall_mem_cons.mpr ⟨(tb_mm tw_2_12.2.2.2.2.2.1 rfl), List.forall_mem_cons.mpr ⟨(tb_mm tw_2_12.2.2.2.2.2.2.1 rfl), List.forall_mem_cons.mpr ⟨(tb_mm tw_2_12.2.2.2.2.2.2.2 rfl), List.forall_mem_nil _⟩⟩⟩⟩⟩⟩⟩⟩⟩⟩⟩⟩⟩⟩⟩⟩), by decide +kernel, nmX11, by decide, by decide +kernel⟩
set_option maxRecDepth 10000 in
theorem cl_12 : tb_CL 12 RX12 TX12 47 := ⟨rfl, tb_cw [.laysFinal "TermBankModel" "TermBankModel" "rows" "[I", .laysFinal "TermBankModel" "TermBankModel" "heads" "[I", .laysFinal "TermBankModel" "TermBankModel" "arguments" "[I", .laysFinal "TermBankModel" "TermBankModel" "depths" "[I", .laysFinal "TermBankModel" "TermBankModel" "letter" "[I", .laysFinal "TermBankModel" "TermBankModel" "arity" "[I", .laysFinal "TermBankModel" "TermBankModel" "weight" "[I", .laysFinal "TermBankModel" "TermBankModel" "refused" "[I", .lays "TermBankModel" "TermBankModel" "thrown" "I", .lays "TermBankModel" "TermBankModel" "symbols" "I", .lays "TermBankModel" "TermBankModel" "acts" "I", .lays "TermBankModel" "TermBankModel" "firstAct" "I", .lays "TermBankModel" "TermBankModel" "imageActs" "I", .lays "TermBankModel" "TermBankModel" "imageFirst" "I", .lays "TermBankModel" "TermBankModel" "hasImage" "I", .lays "TermBankModel" "TermBankModel" "base" "I", .lays "TermBankModel" "TermBankModel" "row" "I", .lays "TermBankModel" "TermBankModel" "named" "I", .laysFinal "TermBankModel" "TermBankModel" "tape" "[I", .lays "TermBankModel" "TermBankModel" "taped" "I", .lays "TermBankModel" "TermBankModel" "faultPlace" "I", .lays "TermBankModel" "TermBankModel" "isFull" "Z", .laysFinal "TermBankModel" "TermBankModel" "met" "[I", .laysFinal "TermBankModel" "TermBankModel" "bound" "[I", .laysFinal "TermBankModel" "TermBankModel" "next" "[I", .laysFinal "TermBankModel" "TermBankModel" "up" "[I", .laysFinal "TermBankModel" "TermBankModel" "shown" "[I", .laysFinal "TermBankModel" "TermBankModel" "least" "[I", .laysFinal "TermBankModel" "TermBankModel" "color" "[I", .laysFinal "TermBankModel" "TermBankModel" "pairs" "[I", .lays "TermBankModel" "TermBankModel" "isClash" "Z", .laysFinal "TermBankModel" "TermBankModel" "coupled" "[I", .lays "TermBankModel" "TermBankModel" "couples" "I", .lays "TermBankModel" "TermBankModel" "isMuch" "Z", .lays "TermBankModel" "TermBankModel" "stepped" "I", .lays "TermBankModel" "TermBankModel" "at" "I", .lays "TermBankModel" "TermBankModel" "place" "I", .lays "TermBankModel" "TermBankModel" "size" "I", .lays "TermBankModel" "TermBankModel" "sort" "I", .lays "TermBankModel" "TermBankModel" "value" "I", .lays "TermBankModel" "TermBankModel" "word" "I", .lays "TermBankModel" "TermBankModel" "wordLong" "I", .lays "TermBankModel" "TermBankModel" "sign" "I", .lays "TermBankModel" "TermBankModel" "bad" "I", .lays "TermBankModel" "TermBankModel" "symbols1" "I", .lays "TermBankModel" "TermBankModel" "rooms1" "I", .lays "TermBankModel" "TermBankModel" "its" "I"] rfl (List.forall_mem_cons.mpr ⟨(tb_mm tw_6_14.2.2.2.2.1 rfl), List.forall_mem_cons.mpr ⟨(tb_mm tw_6_14.2.2.2.2.2.1 rfl), List.forall_mem_cons.mpr ⟨(tb_mm tw_6_14.2.2.2.2.2.2.1 rfl), List.forall_mem_cons.mpr ⟨(tb_mm tw_6_14.2.2.2.2.2.2.2.1 rfl), List.forall_mem_cons.mpr ⟨(tb_mm tw_6_14.2.2.2.2.2.2.2.2.1 rfl), List.forall_mem_cons.mpr ⟨(tb_mm tw_6_14.2.2.2.2.2.2.2.2.2 rfl), List.forall_mem_cons.mpr ⟨(tb_mm tw_7_0.1 rfl), List.forall_mem_cons.mpr ⟨(tb_mm tw_7_0.2.1 rfl), List.forall_mem_cons.mpr ⟨(tb_mm tw_7_0.2.2.1 rfl), List.forall_mem_cons.mpr ⟨(tb_mm tw_7_0.2.2.2.1 rfl), List.forall_mem_cons.mpr ⟨(tb_mm tw_7_0.2.2.2.2.1 rfl), List.forall_mem_cons.mpr ⟨(tb_mm tw_7_0.2.2.2.2.2.1 rfl), List.forall_mem_cons.mpr ⟨(tb_mm tw_7_0.2.2.2.2.2.2.1 rfl), List.forall_mem_cons.mpr ⟨(tb_mm tw_7_0.2.2.2.2.2.2.2 rfl), List.forall_mem_cons.mpr ⟨(tb_mm tw_7_1.1 rfl), List.forall_mem_cons.mpr ⟨(tb_mm tw_7_1.2.1 rfl), List.forall_mem_cons.mpr ⟨(tb_mm tw_7_1.2.2.1 rfl), List.forall_mem_cons.mpr ⟨(tb_mm tw_7_1.2.2.2.1 rfl), List.forall_mem_cons.mpr ⟨(tb_mm tw_7_1.2.2.2.2.1 rfl), List.forall_mem_cons.mpr ⟨(tb_mm tw_7_1.2.2.2.2.2.1 rfl), List.forall_mem_cons.mpr ⟨(tb_mm tw_7_1.2.2.2.2.2.2.1 rfl), List.forall_mem_cons.mpr ⟨(tb_mm tw_7_1.2.2.2.2.2.2.2 rfl), List.forall_mem_cons.mpr ⟨(tb_mm tw_7_2.1 rfl), List.forall_mem_cons.mpr ⟨(tb_mm tw_7_2.2.1 rfl), List.forall_mem_cons.mpr ⟨(tb_mm tw_7_2.2.2.1 rfl), List.forall_mem_cons.mpr ⟨(tb_mm tw_7_2.2.2.2.1 rfl), List.forall_mem_cons.mpr ⟨(tb_mm tw_7_2.2.2.2.2.1 rfl), List.forall_mem_cons.mpr ⟨(tb_mm tw_7_2.2.2.2.2.2.1 rfl), List.forall_mem_cons.mpr ⟨(tb_mm tw_7_2.2.2.2.2.2.2.1 rfl), List.forall_mem_cons.mpr ⟨(tb_mm tw_7_2.2.2.2.2.2.2.2 rfl), List.forall_mem_cons.mpr ⟨(tb_mm tw_7_3.1 rfl), List.forall_mem_cons.mpr ⟨(tb_mm tw_7_3.2.1 rfl), List.forall_mem_cons.mpr ⟨(tb_mm tw_7_3.2.2.1 rfl), List.forall_mem_cons.mpr ⟨(tb_mm tw_7_3.2.2.2.1 rfl), List.forall_mem_cons.mpr ⟨(tb_mm tw_7_3.2.2.2.2.1 rfl), List.forall_mem_cons.mpr ⟨(tb_mm tw_7_3.2.2.2.2.2.1 rfl), List.forall_mem_cons.mpr ⟨(tb_mm tw_7_3.2.2.2.2.2.2.1 rfl), List.forall_mem_cons.mpr ⟨(tb_mm tw_7_3.2.2.2.2.2.2.2 rfl), List.forall_mem_cons.mpr ⟨(tb_mm tw_7_4.1 rfl), List.forall_mem_cons.mpr ⟨(tb_mm tw_7_4.2.1 rfl), List.forall_mem_cons.mpr ⟨(tb_mm tw_7_4.2.2.1 rfl), List.forall_mem_cons.mpr ⟨(tb_mm tw_7_4.2.2.2.1 rfl), List.forall_mem_cons.mpr ⟨(tb_mm tw_7_4.2.2.2.2.1 rfl), List.forall_mem_cons.mpr ⟨(tb_mm tw_7_4.2.2.2.2.2.1 rfl), List.forall_mem_cons.mpr ⟨(tb_mm tw_7_4.2.2.2.2.2.2.1 rfl), List.forall_mem_cons.mpr ⟨(tb_mm tw_7_4.2.2.2.2.2.2.2 rfl), List.forall_mem_cons.mpr ⟨(tb_mm tw_7_5.1 rfl), List.forall_mem_nil _⟩⟩⟩⟩⟩⟩⟩⟩⟩⟩⟩⟩⟩⟩⟩⟩⟩⟩⟩⟩⟩⟩⟩⟩⟩⟩⟩⟩⟩⟩⟩⟩⟩⟩⟩⟩⟩⟩⟩⟩⟩⟩⟩⟩⟩⟩⟩), by decide +kernel, nmX12, by decide, by decide +kernel⟩
abbrev M_X11_init : tb_Mt := (yX11_init, cX11_init, 1, none, [])
theorem nc_0 : ("TermBank" : String) ≠ "java/lang/invoke/MethodHandle" ∧ ("TermBank" : String) ≠ "java/lang/invoke/VarHandle" := by decide +kernel
theorem pd_0 : (parseMethodDescriptor "()V").map (fun d => d.parameters.length) = some 0 := by decide +kernel
theorem cd_X11_init : tb_CD M_X11_init 0 := ⟨(tb_mm tw_1_1.2.2.2.2.2.2.2.2.2.2.1 rfl), (tb_mm tw_1_0.1 rfl), nc_0.1, nc_0.2, pd_0⟩
abbrev M_X8_init : tb_Mt := (yX8_init, cX8_init, 1, none, [])
theorem nc_1 : ("TermBank$Symbols" : String) ≠ "java/lang/invoke/MethodHandle" ∧ ("TermBank$Symbols" : String) ≠ "java/lang/invoke/VarHandle" := by decide +kernel
theorem cd_X8_init : tb_CD M_X8_init 0 := ⟨(tb_mm tw_1_2.2.2.2.2.2.1 rfl), (tb_mm tw_1_0.2.1 rfl), nc_1.1, nc_1.2, pd_0⟩
abbrev M_X9_init : tb_Mt := (yX9_init, cX9_init, 2, none, [])
theorem nc_2 : ("TermBank$Terms" : String) ≠ "java/lang/invoke/MethodHandle" ∧ ("TermBank$Terms" : String) ≠ "java/lang/invoke/VarHandle" := by decide +kernel
theorem pd_1 : (parseMethodDescriptor "(LTermBank$Symbols;)V").map (fun d => d.parameters.length) = some 1 := by decide +kernel
theorem cd_X9_init : tb_CD M_X9_init 1 := ⟨(tb_mm tw_1_4.2.2.2.2.2.2.2.1 rfl), (tb_mm tw_1_0.2.2.2.1 rfl), nc_2.1, nc_2.2, pd_1⟩
abbrev M_J7_fill_53178 : tb_Mt := (yJ7_fill_53178, cJ7_fill_53178, 4, none, [])
theorem nc_3 : ("java/util/Arrays" : String) ≠ "java/lang/invoke/MethodHandle" ∧ ("java/util/Arrays" : String) ≠ "java/lang/invoke/VarHandle" := by decide +kernel
theorem pd_2 : (parseMethodDescriptor "([II)V").map (fun d => d.parameters.length) = some 2 := by decide +kernel
theorem cd_J7_fill_53178 : tb_CD M_J7_fill_53178 2 := ⟨(tb_mm tw_1_4.2.2.2.2.2.2.2.2.2.2.2.1 rfl), (tb_mm tw_1_0.2.2.2.2.1 rfl), nc_3.1, nc_3.2, pd_2⟩
abbrev M_X1_init : tb_Mt := (yX1_init, cX1_init, 1, none, [])
theorem nc_4 : ("TermBank$Ledger" : String) ≠ "java/lang/invoke/MethodHandle" ∧ ("TermBank$Ledger" : String) ≠ "java/lang/invoke/VarHandle" := by decide +kernel
theorem cd_X1_init : tb_CD M_X1_init 0 := ⟨(tb_mm tw_1_9.2.1 rfl), (tb_mm tw_1_0.2.2.2.2.2.1 rfl), nc_4.1, nc_4.2, pd_0⟩
abbrev M_X1_fillAnew : tb_Mt := (yX1_fillAnew, cX1_fillAnew, 2, none, [])
theorem pd_3 : (parseMethodDescriptor "([I)V").map (fun d => d.parameters.length) = some 1 := by decide +kernel
theorem cd_X1_fillAnew : tb_CD M_X1_fillAnew 1 := ⟨(tb_mm tw_1_9.2.2.2.2.2.1 rfl), (tb_mm tw_1_0.2.2.2.2.2.1 rfl), nc_4.1, nc_4.2, pd_3⟩
abbrev M_X0_init : tb_Mt := (yX0_init, cX0_init, 3, none, [])
theorem nc_5 : ("TermBank$Core" : String) ≠ "java/lang/invoke/MethodHandle" ∧ ("TermBank$Core" : String) ≠ "java/lang/invoke/VarHandle" := by decide +kernel
theorem pd_4 : (parseMethodDescriptor "(LTermBank$Terms;LTermBank$Ledger;)V").map (fun d => d.parameters.length) = some 2 := by decide +kernel
theorem cd_X0_init : tb_CD M_X0_init 2 := ⟨(tb_mm tw_1_10.2.2.1 rfl), (tb_mm tw_1_0.2.2.1 rfl), nc_5.1, nc_5.2, pd_4⟩
abbrev M_X3_init : tb_Mt := (yX3_init, cX3_init, 2, none, [])
theorem nc_6 : ("TermBank$Matcher" : String) ≠ "java/lang/invoke/MethodHandle" ∧ ("TermBank$Matcher" : String) ≠ "java/lang/invoke/VarHandle" := by decide +kernel
theorem pd_5 : (parseMethodDescriptor "(LTermBank$Terms;)V").map (fun d => d.parameters.length) = some 1 := by decide +kernel
theorem cd_X3_init : tb_CD M_X3_init 1 := ⟨(tb_mm tw_1_12.2.2.2.2.2.2.2.1 rfl), (tb_mm tw_1_0.2.2.2.2.2.2.1 rfl), nc_6.1, nc_6.2, pd_5⟩
abbrev M_X2_init : tb_Mt := (yX2_init, cX2_init, 2, none, [])
theorem nc_7 : ("TermBank$Maker" : String) ≠ "java/lang/invoke/MethodHandle" ∧ ("TermBank$Maker" : String) ≠ "java/lang/invoke/VarHandle" := by decide +kernel
theorem cd_X2_init : tb_CD M_X2_init 1 := ⟨(tb_mm tw_1_13.2.2.2.2.2.2.2.1 rfl), (tb_mm tw_1_0.2.2.2.2.2.2.2.1 rfl), nc_7.1, nc_7.2, pd_5⟩
abbrev M_X10_init : tb_Mt := (yX10_init, cX10_init, 2, none, [])
theorem nc_8 : ("TermBank$Unifier" : String) ≠ "java/lang/invoke/MethodHandle" ∧ ("TermBank$Unifier" : String) ≠ "java/lang/invoke/VarHandle" := by decide +kernel
theorem cd_X10_init : tb_CD M_X10_init 1 := ⟨(tb_mm tw_2_0.2.2.2.2.1 rfl), (tb_mm tw_1_0.2.2.2.2.2.2.2.2.1 rfl), nc_8.1, nc_8.2, pd_5⟩
abbrev M_X4_init : tb_Mt := (yX4_init, cX4_init, 2, none, [])
theorem nc_9 : ("TermBank$Ordering" : String) ≠ "java/lang/invoke/MethodHandle" ∧ ("TermBank$Ordering" : String) ≠ "java/lang/invoke/VarHandle" := by decide +kernel
theorem cd_X4_init : tb_CD M_X4_init 1 := ⟨(tb_mm tw_2_3.2.1 rfl), (tb_mm tw_1_0.2.2.2.2.2.2.2.2.2.2.1 rfl), nc_9.1, nc_9.2, pd_5⟩
abbrev M_X7_init : tb_Mt := (yX7_init, cX7_init, 5, none, [])
theorem nc_10 : ("TermBank$Rulebook" : String) ≠ "java/lang/invoke/MethodHandle" ∧ ("TermBank$Rulebook" : String) ≠ "java/lang/invoke/VarHandle" := by decide +kernel
theorem pd_6 : (parseMethodDescriptor "(LTermBank$Core;LTermBank$Matcher;LTermBank$Unifier;LTermBank$Ordering;)V").map (fun d => d.parameters.length) = some 4 := by decide +kernel
theorem cd_X7_init : tb_CD M_X7_init 4 := ⟨(tb_mm tw_2_4.2.2.2.1 rfl), (tb_mm tw_1_0.2.2.2.2.2.2.2.2.2.1 rfl), nc_10.1, nc_10.2, pd_6⟩
abbrev M_X6_init : tb_Mt := (yX6_init, cX6_init, 4, none, [])
theorem nc_11 : ("TermBank$Rewriter" : String) ≠ "java/lang/invoke/MethodHandle" ∧ ("TermBank$Rewriter" : String) ≠ "java/lang/invoke/VarHandle" := by decide +kernel
theorem pd_7 : (parseMethodDescriptor "(LTermBank$Core;LTermBank$Matcher;LTermBank$Maker;)V").map (fun d => d.parameters.length) = some 3 := by decide +kernel
theorem cd_X6_init : tb_CD M_X6_init 3 := ⟨(tb_mm tw_2_5.2.2.2.2.2.2.2.1 rfl), (tb_mm tw_1_0.2.2.2.2.2.2.2.2.2.2.2.1 rfl), nc_11.1, nc_11.2, pd_7⟩
abbrev M_X5_init : tb_Mt := (yX5_init, cX5_init, 4, none, [])
theorem nc_12 : ("TermBank$Reader" : String) ≠ "java/lang/invoke/MethodHandle" ∧ ("TermBank$Reader" : String) ≠ "java/lang/invoke/VarHandle" := by decide +kernel
theorem pd_8 : (parseMethodDescriptor "([ILTermBank$Core;LTermBank$Rulebook;)V").map (fun d => d.parameters.length) = some 3 := by decide +kernel
theorem cd_X5_init : tb_CD M_X5_init 3 := ⟨(tb_mm tw_2_7.2.2.2.2.2.2.2.2.1 rfl), (tb_mm tw_1_0.2.2.2.2.2.2.2.2.2.2.2.2.1 rfl), nc_12.1, nc_12.2, pd_8⟩
abbrev M_X11_feed : tb_Mt := (yX11_feed, cX11_feed, 6, some .int, [])
theorem pd_9 : (parseMethodDescriptor "(IIIII)I").map (fun d => d.parameters.length) = some 5 := by decide +kernel
theorem cd_X11_feed : tb_CD M_X11_feed 5 := ⟨(tb_mm tw_2_13.2.2.2.1 rfl), (tb_mm tw_1_0.1 rfl), nc_0.1, nc_0.2, pd_9⟩
abbrev M_X11_tapeNumber : tb_Mt := (yX11_tapeNumber, cX11_tapeNumber, 3, none, [])
theorem pd_10 : (parseMethodDescriptor "(I)V").map (fun d => d.parameters.length) = some 1 := by decide +kernel
theorem cd_X11_tapeNumber : tb_CD M_X11_tapeNumber 1 := ⟨(tb_mm tw_2_13.2.2.2.2.2.2.2.1 rfl), (tb_mm tw_1_0.1 rfl), nc_0.1, nc_0.2, pd_10⟩
abbrev M_X11_fault : tb_Mt := (yX11_fault, cX11_fault, 1, some .int, [])
theorem pd_11 : (parseMethodDescriptor "()I").map (fun d => d.parameters.length) = some 0 := by decide +kernel
theorem cd_X11_fault : tb_CD M_X11_fault 0 := ⟨(tb_mm tw_2_13.2.2.2.2.2.2.2.2.2.2.2.1 rfl), (tb_mm tw_1_0.1 rfl), nc_0.1, nc_0.2, pd_11⟩
abbrev M_X11_variable : tb_Mt := (yX11_variable, cX11_variable, 2, some .int, [])
theorem pd_12 : (parseMethodDescriptor "(I)I").map (fun d => d.parameters.length) = some 1 := by decide +kernel
theorem cd_X11_variable : tb_CD M_X11_variable 1 := ⟨(tb_mm tw_2_14.2.1 rfl), (tb_mm tw_1_0.1 rfl), nc_0.1, nc_0.2, pd_12⟩
abbrev M_X11_isVariableNumber : tb_Mt := (yX11_isVariableNumber, cX11_isVariableNumber, 1, some .boolean, [])
theorem pd_13 : (parseMethodDescriptor "(I)Z").map (fun d => d.parameters.length) = some 1 := by decide +kernel
theorem cd_X11_isVariableNumber : tb_CD M_X11_isVariableNumber 1 := ⟨(tb_mm tw_2_14.2.2.2.2.1 rfl), (tb_mm tw_1_0.1 rfl), nc_0.1, nc_0.2, pd_13⟩
abbrev M_X11_refused : tb_Mt := (yX11_refused, cX11_refused, 3, some .int, [])
theorem pd_14 : (parseMethodDescriptor "(II)I").map (fun d => d.parameters.length) = some 2 := by decide +kernel
theorem cd_X11_refused : tb_CD M_X11_refused 2 := ⟨(tb_mm tw_2_14.2.2.2.2.2.2.2.2.1 rfl), (tb_mm tw_1_0.1 rfl), nc_0.1, nc_0.2, pd_14⟩
abbrev M_X0_begin : tb_Mt := (yX0_begin, cX0_begin, 1, none, [])
theorem cd_X0_begin : tb_CD M_X0_begin 0 := ⟨(tb_mm tw_2_14.2.2.2.2.2.2.2.2.2.2.2.2.1 rfl), (tb_mm tw_1_0.2.2.1 rfl), nc_5.1, nc_5.2, pd_0⟩
abbrev M_X9_variableTerm : tb_Mt := (yX9_variableTerm, cX9_variableTerm, 2, some .int, [])
theorem cd_X9_variableTerm : tb_CD M_X9_variableTerm 1 := ⟨(tb_mm tw_3_0.2.2.2.1 rfl), (tb_mm tw_1_0.2.2.2.1 rfl), nc_2.1, nc_2.2, pd_12⟩
abbrev M_X9_made : tb_Mt := (yX9_made, cX9_made, 11, some .int, [])
theorem pd_15 : (parseMethodDescriptor "(IIII)I").map (fun d => d.parameters.length) = some 4 := by decide +kernel
theorem cd_X9_made : tb_CD M_X9_made 4 := ⟨(tb_mm tw_3_0.2.2.2.2.2.2.2.1 rfl), (tb_mm tw_1_0.2.2.2.1 rfl), nc_2.1, nc_2.2, pd_15⟩
abbrev M_X8_has : tb_Mt := (yX8_has, cX8_has, 2, some .boolean, [])
theorem cd_X8_has : tb_CD M_X8_has 1 := ⟨(tb_mm tw_3_0.2.2.2.2.2.2.2.2.2.2.2.1 rfl), (tb_mm tw_1_0.2.1 rfl), nc_1.1, nc_1.2, pd_13⟩
abbrev M_X9_bucketOf : tb_Mt := (yX9_bucketOf, cX9_bucketOf, 4, some .int, [])
theorem cd_X9_bucketOf : tb_CD M_X9_bucketOf 1 := ⟨(tb_mm tw_3_0.2.2.2.2.2.2.2.2.2.2.2.2.2.2.2 rfl), (tb_mm tw_1_0.2.2.2.1 rfl), nc_2.1, nc_2.2, pd_12⟩
abbrev M_X9_isSame : tb_Mt := (yX9_isSame, cX9_isSame, 5, some .boolean, [])
theorem pd_16 : (parseMethodDescriptor "(II)Z").map (fun d => d.parameters.length) = some 2 := by decide +kernel
theorem cd_X9_isSame : tb_CD M_X9_isSame 2 := ⟨(tb_mm tw_3_1.2.2.2.2.2.2.1 rfl), (tb_mm tw_1_0.2.2.2.1 rfl), nc_2.1, nc_2.2, pd_16⟩
abbrev M_X9_hasShapeOf : tb_Mt := (yX9_hasShapeOf, cX9_hasShapeOf, 5, some .boolean, [])
theorem cd_X9_hasShapeOf : tb_CD M_X9_hasShapeOf 2 := ⟨(tb_mm tw_3_1.2.2.2.2.2.2.2.2.2.2.1 rfl), (tb_mm tw_1_0.2.2.2.1 rfl), nc_2.1, nc_2.2, pd_16⟩
abbrev M_X9_measure : tb_Mt := (yX9_measure, cX9_measure, 4, none, [])
theorem cd_X9_measure : tb_CD M_X9_measure 1 := ⟨(tb_mm tw_3_1.2.2.2.2.2.2.2.2.2.2.2.2.2.2.1 rfl), (tb_mm tw_1_0.2.2.2.1 rfl), nc_2.1, nc_2.2, pd_10⟩
abbrev M_X11_settled : tb_Mt := (yX11_settled, cX11_settled, 2, some .int, [])
theorem cd_X11_settled : tb_CD M_X11_settled 1 := ⟨(tb_mm tw_3_2.2.2.1 rfl), (tb_mm tw_1_0.1 rfl), nc_0.1, nc_0.2, pd_12⟩
abbrev M_X0_rollBack : tb_Mt := (yX0_rollBack, cX0_rollBack, 1, none, [])
theorem cd_X0_rollBack : tb_CD M_X0_rollBack 0 := ⟨(tb_mm tw_3_2.2.2.2.2.2.2.1 rfl), (tb_mm tw_1_0.2.2.1 rfl), nc_5.1, nc_5.2, pd_0⟩
abbrev M_X0_takeBack : tb_Mt := (yX0_takeBack, cX0_takeBack, 2, none, [])
theorem cd_X0_takeBack : tb_CD M_X0_takeBack 1 := ⟨(tb_mm tw_3_2.2.2.2.2.2.2.2.2.2.2.1 rfl), (tb_mm tw_1_0.2.2.1 rfl), nc_5.1, nc_5.2, pd_3⟩
abbrev M_X9_cutTo : tb_Mt := (yX9_cutTo, cX9_cutTo, 3, none, [])
theorem cd_X9_cutTo : tb_CD M_X9_cutTo 1 := ⟨(tb_mm tw_3_2.2.2.2.2.2.2.2.2.2.2.2.2.2.2.1 rfl), (tb_mm tw_1_0.2.2.2.1 rfl), nc_2.1, nc_2.2, pd_10⟩
abbrev M_X0_keep : tb_Mt := (yX0_keep, cX0_keep, 1, none, [])
theorem cd_X0_keep : tb_CD M_X0_keep 0 := ⟨(tb_mm tw_3_3.2.2.1 rfl), (tb_mm tw_1_0.2.2.1 rfl), nc_5.1, nc_5.2, pd_0⟩
abbrev M_X11_make : tb_Mt := (yX11_make, cX11_make, 5, some .int, [])
theorem cd_X11_make : tb_CD M_X11_make 4 := ⟨(tb_mm tw_3_3.2.2.2.2.2.2.1 rfl), (tb_mm tw_1_0.1 rfl), nc_0.1, nc_0.2, pd_15⟩
abbrev M_X11_haveArguments : tb_Mt := (yX11_haveArguments, cX11_haveArguments, 6, some .boolean, [])
theorem pd_17 : (parseMethodDescriptor "(IIII)Z").map (fun d => d.parameters.length) = some 4 := by decide +kernel
theorem cd_X11_haveArguments : tb_CD M_X11_haveArguments 4 := ⟨(tb_mm tw_3_3.2.2.2.2.2.2.2.2.2.2.2.1 rfl), (tb_mm tw_1_0.1 rfl), nc_0.1, nc_0.2, pd_17⟩
abbrev M_X9_has : tb_Mt := (yX9_has, cX9_has, 2, some .boolean, [])
theorem cd_X9_has : tb_CD M_X9_has 1 := ⟨(tb_mm tw_3_3.2.2.2.2.2.2.2.2.2.2.2.2.2.2.2 rfl), (tb_mm tw_1_0.2.2.2.1 rfl), nc_2.1, nc_2.2, pd_13⟩
abbrev M_X11_bind : tb_Mt := (yX11_bind, cX11_bind, 4, some .int, [])
theorem cd_X11_bind : tb_CD M_X11_bind 2 := ⟨(tb_mm tw_3_4.2.2.2.2.1 rfl), (tb_mm tw_1_0.1 rfl), nc_0.1, nc_0.2, pd_14⟩
abbrev M_X11_apply : tb_Mt := (yX11_apply, cX11_apply, 2, some .int, [])
theorem cd_X11_apply : tb_CD M_X11_apply 1 := ⟨(tb_mm tw_3_4.2.2.2.2.2.2.2.2.1 rfl), (tb_mm tw_1_0.1 rfl), nc_0.1, nc_0.2, pd_12⟩
abbrev M_X2_applied : tb_Mt := (yX2_applied, cX2_applied, 4, some .int, [])
theorem pd_18 : (parseMethodDescriptor "(I[II)I").map (fun d => d.parameters.length) = some 3 := by decide +kernel
theorem cd_X2_applied : tb_CD M_X2_applied 3 := ⟨(tb_mm tw_3_4.2.2.2.2.2.2.2.2.2.2.2.2.1 rfl), (tb_mm tw_1_0.2.2.2.2.2.2.2.1 rfl), nc_7.1, nc_7.2, pd_18⟩
abbrev M_X2_appliedPart : tb_Mt := (yX2_appliedPart, cX2_appliedPart, 9, some .int, [])
theorem pd_19 : (parseMethodDescriptor "(I[III)I").map (fun d => d.parameters.length) = some 4 := by decide +kernel
theorem cd_X2_appliedPart : tb_CD M_X2_appliedPart 4 := ⟨(tb_mm tw_3_5.1 rfl), (tb_mm tw_1_0.2.2.2.2.2.2.2.1 rfl), nc_7.1, nc_7.2, pd_19⟩
abbrev M_X9_isVariable : tb_Mt := (yX9_isVariable, cX9_isVariable, 2, some .boolean, [])
theorem cd_X9_isVariable : tb_CD M_X9_isVariable 1 := ⟨(tb_mm tw_3_5.2.2.2.2.1 rfl), (tb_mm tw_1_0.2.2.2.1 rfl), nc_2.1, nc_2.2, pd_13⟩
abbrev M_X9_argumentOf : tb_Mt := (yX9_argumentOf, cX9_argumentOf, 3, some .int, [])
theorem cd_X9_argumentOf : tb_CD M_X9_argumentOf 2 := ⟨(tb_mm tw_3_5.2.2.2.2.2.2.2.2.1 rfl), (tb_mm tw_1_0.2.2.2.1 rfl), nc_2.1, nc_2.2, pd_14⟩
abbrev M_X11_close : tb_Mt := (yX11_close, cX11_close, 2, some .int, [])
theorem cd_X11_close : tb_CD M_X11_close 1 := ⟨(tb_mm tw_3_5.2.2.2.2.2.2.2.2.2.2.2.2.2.1 rfl), (tb_mm tw_1_0.1 rfl), nc_0.1, nc_0.2, pd_12⟩
abbrev M_X2_hasRing : tb_Mt := (yX2_hasRing, cX2_hasRing, 7, some .boolean, [])
theorem pd_20 : (parseMethodDescriptor "(I[II)Z").map (fun d => d.parameters.length) = some 3 := by decide +kernel
theorem cd_X2_hasRing : tb_CD M_X2_hasRing 3 := ⟨(tb_mm tw_3_6.2.1 rfl), (tb_mm tw_1_0.2.2.2.2.2.2.2.1 rfl), nc_7.1, nc_7.2, pd_20⟩
abbrev M_X2_reachedFrom : tb_Mt := (yX2_reachedFrom, cX2_reachedFrom, 8, some .int, [])
theorem cd_X2_reachedFrom : tb_CD M_X2_reachedFrom 3 := ⟨(tb_mm tw_3_6.2.2.2.2.2.1 rfl), (tb_mm tw_1_0.2.2.2.2.2.2.2.1 rfl), nc_7.1, nc_7.2, pd_18⟩
abbrev M_X2_closed : tb_Mt := (yX2_closed, cX2_closed, 4, some .int, [])
theorem cd_X2_closed : tb_CD M_X2_closed 3 := ⟨(tb_mm tw_3_6.2.2.2.2.2.2.2.2.2.1 rfl), (tb_mm tw_1_0.2.2.2.2.2.2.2.1 rfl), nc_7.1, nc_7.2, pd_18⟩
abbrev M_X2_closedPart : tb_Mt := (yX2_closedPart, cX2_closedPart, 9, some .int, [])
theorem cd_X2_closedPart : tb_CD M_X2_closedPart 4 := ⟨(tb_mm tw_3_6.2.2.2.2.2.2.2.2.2.2.2.2.2.2.1 rfl), (tb_mm tw_1_0.2.2.2.2.2.2.2.1 rfl), nc_7.1, nc_7.2, pd_19⟩
abbrev M_X2_closedVariable : tb_Mt := (yX2_closedVariable, cX2_closedVariable, 7, some .int, [])
theorem cd_X2_closedVariable : tb_CD M_X2_closedVariable 4 := ⟨(tb_mm tw_3_7.2.2.1 rfl), (tb_mm tw_1_0.2.2.2.2.2.2.2.1 rfl), nc_7.1, nc_7.2, pd_19⟩
abbrev M_X11_unify : tb_Mt := (yX11_unify, cX11_unify, 5, some .int, [])
theorem cd_X11_unify : tb_CD M_X11_unify 2 := ⟨(tb_mm tw_3_7.2.2.2.2.2.2.1 rfl), (tb_mm tw_1_0.1 rfl), nc_0.1, nc_0.2, pd_14⟩
abbrev M_X10_wayOf : tb_Mt := (yX10_wayOf, cX10_wayOf, 6, some .int, [])
theorem pd_21 : (parseMethodDescriptor "(III)I").map (fun d => d.parameters.length) = some 3 := by decide +kernel
theorem cd_X10_wayOf : tb_CD M_X10_wayOf 3 := ⟨(tb_mm tw_3_7.2.2.2.2.2.2.2.2.2.2.1 rfl), (tb_mm tw_1_0.2.2.2.2.2.2.2.2.1 rfl), nc_8.1, nc_8.2, pd_21⟩
abbrev M_X10_addPair : tb_Mt := (yX10_addPair, cX10_addPair, 3, none, [])
theorem pd_22 : (parseMethodDescriptor "(II)V").map (fun d => d.parameters.length) = some 2 := by decide +kernel
theorem cd_X10_addPair : tb_CD M_X10_addPair 2 := ⟨(tb_mm tw_3_7.2.2.2.2.2.2.2.2.2.2.2.2.2.2.1 rfl), (tb_mm tw_1_0.2.2.2.2.2.2.2.2.1 rfl), nc_8.1, nc_8.2, pd_22⟩
abbrev M_X10_topOf : tb_Mt := (yX10_topOf, cX10_topOf, 4, some .int, [])
theorem cd_X10_topOf : tb_CD M_X10_topOf 1 := ⟨(tb_mm tw_3_8.2.2.1 rfl), (tb_mm tw_1_0.2.2.2.2.2.2.2.2.1 rfl), nc_8.1, nc_8.2, pd_12⟩
abbrev M_X10_wake : tb_Mt := (yX10_wake, cX10_wake, 3, none, [])
theorem cd_X10_wake : tb_CD M_X10_wake 1 := ⟨(tb_mm tw_3_8.2.2.2.2.2.2.1 rfl), (tb_mm tw_1_0.2.2.2.2.2.2.2.2.1 rfl), nc_8.1, nc_8.2, pd_10⟩
abbrev M_X10_termOf : tb_Mt := (yX10_termOf, cX10_termOf, 2, some .int, [])
theorem cd_X10_termOf : tb_CD M_X10_termOf 1 := ⟨(tb_mm tw_3_8.2.2.2.2.2.2.2.2.2.2.1 rfl), (tb_mm tw_1_0.2.2.2.2.2.2.2.2.1 rfl), nc_8.1, nc_8.2, pd_12⟩
abbrev M_X10_joined : tb_Mt := (yX10_joined, cX10_joined, 6, some .boolean, [])
theorem cd_X10_joined : tb_CD M_X10_joined 2 := ⟨(tb_mm tw_3_8.2.2.2.2.2.2.2.2.2.2.2.2.2.2.1 rfl), (tb_mm tw_1_0.2.2.2.2.2.2.2.2.1 rfl), nc_8.1, nc_8.2, pd_16⟩
abbrev M_X10_lesser : tb_Mt := (yX10_lesser, cX10_lesser, 3, some .int, [])
theorem cd_X10_lesser : tb_CD M_X10_lesser 2 := ⟨(tb_mm tw_3_9.2.2.1 rfl), (tb_mm tw_1_0.2.2.2.2.2.2.2.2.1 rfl), nc_8.1, nc_8.2, pd_14⟩
abbrev M_X10_partOf : tb_Mt := (yX10_partOf, cX10_partOf, 3, some .int, [])
theorem cd_X10_partOf : tb_CD M_X10_partOf 2 := ⟨(tb_mm tw_3_9.2.2.2.2.2.2.1 rfl), (tb_mm tw_1_0.2.2.2.2.2.2.2.2.1 rfl), nc_8.1, nc_8.2, pd_14⟩
abbrev M_X10_sideOf : tb_Mt := (yX10_sideOf, cX10_sideOf, 2, some .int, [])
theorem cd_X10_sideOf : tb_CD M_X10_sideOf 1 := ⟨(tb_mm tw_3_9.2.2.2.2.2.2.2.2.2.2.2.1 rfl), (tb_mm tw_1_0.2.2.2.2.2.2.2.2.1 rfl), nc_8.1, nc_8.2, pd_12⟩
abbrev M_X10_listAll : tb_Mt := (yX10_listAll, cX10_listAll, 7, some .int, [])
theorem cd_X10_listAll : tb_CD M_X10_listAll 1 := ⟨(tb_mm tw_3_9.2.2.2.2.2.2.2.2.2.2.2.2.2.2.2 rfl), (tb_mm tw_1_0.2.2.2.2.2.2.2.2.1 rfl), nc_8.1, nc_8.2, pd_12⟩
abbrev M_X10_takenAway : tb_Mt := (yX10_takenAway, cX10_takenAway, 7, some .int, [])
theorem cd_X10_takenAway : tb_CD M_X10_takenAway 1 := ⟨(tb_mm tw_3_10.2.2.2.1 rfl), (tb_mm tw_1_0.2.2.2.2.2.2.2.2.1 rfl), nc_8.1, nc_8.2, pd_12⟩
abbrev M_X10_bindAll : tb_Mt := (yX10_bindAll, cX10_bindAll, 6, some .int, [])
theorem cd_X10_bindAll : tb_CD M_X10_bindAll 3 := ⟨(tb_mm tw_3_10.2.2.2.2.2.2.2.1 rfl), (tb_mm tw_1_0.2.2.2.2.2.2.2.2.1 rfl), nc_8.1, nc_8.2, pd_18⟩
abbrev M_X10_boundOf : tb_Mt := (yX10_boundOf, cX10_boundOf, 3, some .int, [])
theorem cd_X10_boundOf : tb_CD M_X10_boundOf 1 := ⟨(tb_mm tw_3_10.2.2.2.2.2.2.2.2.2.2.2.2.1 rfl), (tb_mm tw_1_0.2.2.2.2.2.2.2.2.1 rfl), nc_8.1, nc_8.2, pd_12⟩
abbrev M_X10_solvedClass : tb_Mt := (yX10_solvedClass, cX10_solvedClass, 4, some .int, [])
theorem cd_X10_solvedClass : tb_CD M_X10_solvedClass 2 := ⟨(tb_mm tw_3_11.1 rfl), (tb_mm tw_1_0.2.2.2.2.2.2.2.2.1 rfl), nc_8.1, nc_8.2, pd_14⟩
abbrev M_X10_solvedTerm : tb_Mt := (yX10_solvedTerm, cX10_solvedTerm, 7, some .int, [])
theorem cd_X10_solvedTerm : tb_CD M_X10_solvedTerm 2 := ⟨(tb_mm tw_3_11.2.2.2.2.1 rfl), (tb_mm tw_1_0.2.2.2.2.2.2.2.2.1 rfl), nc_8.1, nc_8.2, pd_14⟩
abbrev M_X11_match : tb_Mt := (yX11_match, cX11_match, 3, some .int, [])
theorem cd_X11_match : tb_CD M_X11_match 2 := ⟨(tb_mm tw_3_11.2.2.2.2.2.2.2.2.2.1 rfl), (tb_mm tw_1_0.1 rfl), nc_0.1, nc_0.2, pd_14⟩
abbrev M_X3_matches : tb_Mt := (yX3_matches, cX3_matches, 3, some .boolean, [])
theorem cd_X3_matches : tb_CD M_X3_matches 2 := ⟨(tb_mm tw_3_11.2.2.2.2.2.2.2.2.2.2.2.2.2.1 rfl), (tb_mm tw_1_0.2.2.2.2.2.2.1 rfl), nc_6.1, nc_6.2, pd_16⟩
abbrev M_X3_fitsPart : tb_Mt := (yX3_fitsPart, cX3_fitsPart, 5, some .boolean, [])
theorem pd_23 : (parseMethodDescriptor "(III)Z").map (fun d => d.parameters.length) = some 3 := by decide +kernel
theorem cd_X3_fitsPart : tb_CD M_X3_fitsPart 3 := ⟨(tb_mm tw_3_12.2.2.1 rfl), (tb_mm tw_1_0.2.2.2.2.2.2.1 rfl), nc_6.1, nc_6.2, pd_23⟩
abbrev M_X3_takes : tb_Mt := (yX3_takes, cX3_takes, 3, some .boolean, [])
theorem cd_X3_takes : tb_CD M_X3_takes 2 := ⟨(tb_mm tw_3_12.2.2.2.2.2.2.2.1 rfl), (tb_mm tw_1_0.2.2.2.2.2.2.1 rfl), nc_6.1, nc_6.2, pd_16⟩
abbrev M_X11_common : tb_Mt := (yX11_common, cX11_common, 3, some .int, [])
theorem cd_X11_common : tb_CD M_X11_common 2 := ⟨(tb_mm tw_3_12.2.2.2.2.2.2.2.2.2.2.2.2.2.1 rfl), (tb_mm tw_1_0.1 rfl), nc_0.1, nc_0.2, pd_14⟩
abbrev M_X2_haveCommon : tb_Mt := (yX2_haveCommon, cX2_haveCommon, 3, some .boolean, [])
theorem cd_X2_haveCommon : tb_CD M_X2_haveCommon 2 := ⟨(tb_mm tw_3_13.2.1 rfl), (tb_mm tw_1_0.2.2.2.2.2.2.2.1 rfl), nc_7.1, nc_7.2, pd_16⟩
abbrev M_X2_couple : tb_Mt := (yX2_couple, cX2_couple, 5, some .boolean, [])
theorem cd_X2_couple : tb_CD M_X2_couple 3 := ⟨(tb_mm tw_3_13.2.2.2.2.2.1 rfl), (tb_mm tw_1_0.2.2.2.2.2.2.2.1 rfl), nc_7.1, nc_7.2, pd_23⟩
abbrev M_X2_addCouple : tb_Mt := (yX2_addCouple, cX2_addCouple, 3, some .boolean, [])
theorem cd_X2_addCouple : tb_CD M_X2_addCouple 2 := ⟨(tb_mm tw_3_13.2.2.2.2.2.2.2.2.2.1 rfl), (tb_mm tw_1_0.2.2.2.2.2.2.2.1 rfl), nc_7.1, nc_7.2, pd_16⟩
abbrev M_X2_coupleOf : tb_Mt := (yX2_coupleOf, cX2_coupleOf, 4, some .int, [])
theorem cd_X2_coupleOf : tb_CD M_X2_coupleOf 2 := ⟨(tb_mm tw_3_13.2.2.2.2.2.2.2.2.2.2.2.2.2.1 rfl), (tb_mm tw_1_0.2.2.2.2.2.2.2.1 rfl), nc_7.1, nc_7.2, pd_14⟩
abbrev M_X2_commonOf : tb_Mt := (yX2_commonOf, cX2_commonOf, 3, some .int, [])
theorem cd_X2_commonOf : tb_CD M_X2_commonOf 2 := ⟨(tb_mm tw_3_14.2.1 rfl), (tb_mm tw_1_0.2.2.2.2.2.2.2.1 rfl), nc_7.1, nc_7.2, pd_14⟩
abbrev M_X2_commonPart : tb_Mt := (yX2_commonPart, cX2_commonPart, 9, some .int, [])
theorem cd_X2_commonPart : tb_CD M_X2_commonPart 3 := ⟨(tb_mm tw_3_14.2.2.2.2.2.1 rfl), (tb_mm tw_1_0.2.2.2.2.2.2.2.1 rfl), nc_7.1, nc_7.2, pd_21⟩
abbrev M_X11_normal : tb_Mt := (yX11_normal, cX11_normal, 2, some .int, [])
theorem cd_X11_normal : tb_CD M_X11_normal 1 := ⟨(tb_mm tw_3_14.2.2.2.2.2.2.2.2.2.2.1 rfl), (tb_mm tw_1_0.1 rfl), nc_0.1, nc_0.2, pd_12⟩
abbrev M_X6_allowSteps : tb_Mt := (yX6_allowSteps, cX6_allowSteps, 1, none, [])
theorem cd_X6_allowSteps : tb_CD M_X6_allowSteps 0 := ⟨(tb_mm tw_3_14.2.2.2.2.2.2.2.2.2.2.2.2.2.2.1 rfl), (tb_mm tw_1_0.2.2.2.2.2.2.2.2.2.2.2.1 rfl), nc_11.1, nc_11.2, pd_0⟩
abbrev M_X6_normalOf : tb_Mt := (yX6_normalOf, cX6_normalOf, 4, some .int, [])
theorem cd_X6_normalOf : tb_CD M_X6_normalOf 1 := ⟨(tb_mm tw_4_0.2.2.1 rfl), (tb_mm tw_1_0.2.2.2.2.2.2.2.2.2.2.2.1 rfl), nc_11.1, nc_11.2, pd_12⟩
abbrev M_X6_opened : tb_Mt := (yX6_opened, cX6_opened, 3, some .int, [])
theorem cd_X6_opened : tb_CD M_X6_opened 1 := ⟨(tb_mm tw_4_0.2.2.2.2.2.2.1 rfl), (tb_mm tw_1_0.2.2.2.2.2.2.2.2.2.2.2.1 rfl), nc_11.1, nc_11.2, pd_12⟩
abbrev M_X1_recalled : tb_Mt := (yX1_recalled, cX1_recalled, 4, some .int, [])
theorem cd_X1_recalled : tb_CD M_X1_recalled 1 := ⟨(tb_mm tw_4_0.2.2.2.2.2.2.2.2.2.2.2.1 rfl), (tb_mm tw_1_0.2.2.2.2.2.1 rfl), nc_4.1, nc_4.2, pd_12⟩
abbrev M_X1_dropMemo : tb_Mt := (yX1_dropMemo, cX1_dropMemo, 4, none, [])
theorem cd_X1_dropMemo : tb_CD M_X1_dropMemo 1 := ⟨(tb_mm tw_4_0.2.2.2.2.2.2.2.2.2.2.2.2.2.2.2 rfl), (tb_mm tw_1_0.2.2.2.2.2.1 rfl), nc_4.1, nc_4.2, pd_10⟩
abbrev M_X1_addMemo : tb_Mt := (yX1_addMemo, cX1_addMemo, 4, none, [])
theorem cd_X1_addMemo : tb_CD M_X1_addMemo 2 := ⟨(tb_mm tw_4_1.2.2.2.1 rfl), (tb_mm tw_1_0.2.2.2.2.2.1 rfl), nc_4.1, nc_4.2, pd_22⟩
abbrev M_X6_wentOn : tb_Mt := (yX6_wentOn, cX6_wentOn, 6, some .int, [])
theorem cd_X6_wentOn : tb_CD M_X6_wentOn 1 := ⟨(tb_mm tw_4_1.2.2.2.2.2.2.2.2.1 rfl), (tb_mm tw_1_0.2.2.2.2.2.2.2.2.2.2.2.1 rfl), nc_11.1, nc_11.2, pd_12⟩
abbrev M_X7_firstRule : tb_Mt := (yX7_firstRule, cX7_firstRule, 4, some .int, [])
theorem pd_24 : (parseMethodDescriptor "(LTermBank$Ledger;LTermBank$Matcher;I)I").map (fun d => d.parameters.length) = some 3 := by decide +kernel
theorem cd_X7_firstRule : tb_CD M_X7_firstRule 3 := ⟨(tb_mm tw_4_1.2.2.2.2.2.2.2.2.2.2.2.2.2.1 rfl), (tb_mm tw_1_0.2.2.2.2.2.2.2.2.2.1 rfl), nc_10.1, nc_10.2, pd_24⟩
abbrev M_X6_closedWith : tb_Mt := (yX6_closedWith, cX6_closedWith, 3, some .int, [])
theorem cd_X6_closedWith : tb_CD M_X6_closedWith 2 := ⟨(tb_mm tw_4_2.2.2.1 rfl), (tb_mm tw_1_0.2.2.2.2.2.2.2.2.2.2.2.1 rfl), nc_11.1, nc_11.2, pd_14⟩
abbrev M_X1_remember : tb_Mt := (yX1_remember, cX1_remember, 3, none, [])
theorem cd_X1_remember : tb_CD M_X1_remember 2 := ⟨(tb_mm tw_4_2.2.2.2.2.2.2.1 rfl), (tb_mm tw_1_0.2.2.2.2.2.1 rfl), nc_4.1, nc_4.2, pd_22⟩
abbrev M_X6_countStep : tb_Mt := (yX6_countStep, cX6_countStep, 2, none, [])
theorem cd_X6_countStep : tb_CD M_X6_countStep 1 := ⟨(tb_mm tw_4_2.2.2.2.2.2.2.2.2.2.2.1 rfl), (tb_mm tw_1_0.2.2.2.2.2.2.2.2.2.2.2.1 rfl), nc_11.1, nc_11.2, pd_10⟩
abbrev M_X6_handed : tb_Mt := (yX6_handed, cX6_handed, 4, some .int, [])
theorem cd_X6_handed : tb_CD M_X6_handed 2 := ⟨(tb_mm tw_4_2.2.2.2.2.2.2.2.2.2.2.2.2.2.2.2 rfl), (tb_mm tw_1_0.2.2.2.2.2.2.2.2.2.2.2.1 rfl), nc_11.1, nc_11.2, pd_14⟩
abbrev M_X11_put : tb_Mt := (yX11_put, cX11_put, 5, some .int, [])
theorem cd_X11_put : tb_CD M_X11_put 3 := ⟨(tb_mm tw_4_3.2.2.2.1 rfl), (tb_mm tw_1_0.1 rfl), nc_0.1, nc_0.2, pd_21⟩
abbrev M_X9_hasPlace : tb_Mt := (yX9_hasPlace, cX9_hasPlace, 3, some .boolean, [])
theorem cd_X9_hasPlace : tb_CD M_X9_hasPlace 2 := ⟨(tb_mm tw_4_3.2.2.2.2.2.2.2.1 rfl), (tb_mm tw_1_0.2.2.2.1 rfl), nc_2.1, nc_2.2, pd_16⟩
abbrev M_X2_replaced : tb_Mt := (yX2_replaced, cX2_replaced, 4, some .int, [])
theorem cd_X2_replaced : tb_CD M_X2_replaced 3 := ⟨(tb_mm tw_4_3.2.2.2.2.2.2.2.2.2.2.2.1 rfl), (tb_mm tw_1_0.2.2.2.2.2.2.2.1 rfl), nc_7.1, nc_7.2, pd_21⟩
abbrev M_X2_replacedPart : tb_Mt := (yX2_replacedPart, cX2_replacedPart, 11, some .int, [])
theorem cd_X2_replacedPart : tb_CD M_X2_replacedPart 4 := ⟨(tb_mm tw_4_3.2.2.2.2.2.2.2.2.2.2.2.2.2.2.2 rfl), (tb_mm tw_1_0.2.2.2.2.2.2.2.1 rfl), nc_7.1, nc_7.2, pd_15⟩
abbrev M_X9_argumentAtPlace : tb_Mt := (yX9_argumentAtPlace, cX9_argumentAtPlace, 6, some .int, [])
theorem cd_X9_argumentAtPlace : tb_CD M_X9_argumentAtPlace 2 := ⟨(tb_mm tw_4_4.2.2.2.1 rfl), (tb_mm tw_1_0.2.2.2.1 rfl), nc_2.1, nc_2.2, pd_14⟩
abbrev M_X9_placeInArgument : tb_Mt := (yX9_placeInArgument, cX9_placeInArgument, 6, some .int, [])
theorem cd_X9_placeInArgument : tb_CD M_X9_placeInArgument 3 := ⟨(tb_mm tw_4_4.2.2.2.2.2.2.2.2.1 rfl), (tb_mm tw_1_0.2.2.2.1 rfl), nc_2.1, nc_2.2, pd_21⟩
abbrev M_X11_rules : tb_Mt := (yX11_rules, cX11_rules, 4, some .int, [])
theorem cd_X11_rules : tb_CD M_X11_rules 2 := ⟨(tb_mm tw_4_4.2.2.2.2.2.2.2.2.2.2.2.2.1 rfl), (tb_mm tw_1_0.1 rfl), nc_0.1, nc_0.2, pd_14⟩
abbrev M_X7_isRule : tb_Mt := (yX7_isRule, cX7_isRule, 3, some .boolean, [])
theorem cd_X7_isRule : tb_CD M_X7_isRule 2 := ⟨(tb_mm tw_4_5.1 rfl), (tb_mm tw_1_0.2.2.2.2.2.2.2.2.2.1 rfl), nc_10.1, nc_10.2, pd_16⟩
abbrev M_X4_isGreater : tb_Mt := (yX4_isGreater, cX4_isGreater, 7, some .boolean, [])
theorem cd_X4_isGreater : tb_CD M_X4_isGreater 2 := ⟨(tb_mm tw_4_5.2.2.2.2.2.2.1 rfl), (tb_mm tw_1_0.2.2.2.2.2.2.2.2.2.2.1 rfl), nc_9.1, nc_9.2, pd_16⟩
abbrev M_X4_weighBoth : tb_Mt := (yX4_weighBoth, cX4_weighBoth, 3, none, [])
theorem cd_X4_weighBoth : tb_CD M_X4_weighBoth 2 := ⟨(tb_mm tw_4_5.2.2.2.2.2.2.2.2.2.2.1 rfl), (tb_mm tw_1_0.2.2.2.2.2.2.2.2.2.2.1 rfl), nc_9.1, nc_9.2, pd_22⟩
abbrev M_X4_weigh : tb_Mt := (yX4_weigh, cX4_weigh, 6, none, [])
theorem pd_25 : (parseMethodDescriptor "(III)V").map (fun d => d.parameters.length) = some 3 := by decide +kernel
theorem cd_X4_weigh : tb_CD M_X4_weigh 3 := ⟨(tb_mm tw_4_5.2.2.2.2.2.2.2.2.2.2.2.2.2.2.2 rfl), (tb_mm tw_1_0.2.2.2.2.2.2.2.2.2.2.1 rfl), nc_9.1, nc_9.2, pd_25⟩
abbrev M_X4_lacksVariable : tb_Mt := (yX4_lacksVariable, cX4_lacksVariable, 2, some .boolean, [])
theorem pd_26 : (parseMethodDescriptor "()Z").map (fun d => d.parameters.length) = some 0 := by decide +kernel
theorem cd_X4_lacksVariable : tb_CD M_X4_lacksVariable 0 := ⟨(tb_mm tw_4_6.2.2.2.2.1 rfl), (tb_mm tw_1_0.2.2.2.2.2.2.2.2.2.2.1 rfl), nc_9.1, nc_9.2, pd_26⟩
abbrev M_X4_firstUnlike : tb_Mt := (yX4_firstUnlike, cX4_firstUnlike, 5, some .int, [])
theorem cd_X4_firstUnlike : tb_CD M_X4_firstUnlike 2 := ⟨(tb_mm tw_4_6.2.2.2.2.2.2.2.2.2.1 rfl), (tb_mm tw_1_0.2.2.2.2.2.2.2.2.2.2.1 rfl), nc_9.1, nc_9.2, pd_14⟩
abbrev M_X1_addRule : tb_Mt := (yX1_addRule, cX1_addRule, 4, none, [])
theorem cd_X1_addRule : tb_CD M_X1_addRule 2 := ⟨(tb_mm tw_4_6.2.2.2.2.2.2.2.2.2.2.2.2.2.2.1 rfl), (tb_mm tw_1_0.2.2.2.2.2.1 rfl), nc_4.1, nc_4.2, pd_22⟩
abbrev M_X11_enter : tb_Mt := (yX11_enter, cX11_enter, 3, some .int, [])
theorem cd_X11_enter : tb_CD M_X11_enter 1 := ⟨(tb_mm tw_4_7.2.2.1 rfl), (tb_mm tw_1_0.1 rfl), nc_0.1, nc_0.2, pd_12⟩
abbrev M_X1_entryOf : tb_Mt := (yX1_entryOf, cX1_entryOf, 3, some .int, [])
theorem cd_X1_entryOf : tb_CD M_X1_entryOf 1 := ⟨(tb_mm tw_4_7.2.2.2.2.2.2.1 rfl), (tb_mm tw_1_0.2.2.2.2.2.1 rfl), nc_4.1, nc_4.2, pd_12⟩
abbrev M_X1_addEntry : tb_Mt := (yX1_addEntry, cX1_addEntry, 3, none, [])
theorem cd_X1_addEntry : tb_CD M_X1_addEntry 1 := ⟨(tb_mm tw_4_7.2.2.2.2.2.2.2.2.2.2.1 rfl), (tb_mm tw_1_0.2.2.2.2.2.1 rfl), nc_4.1, nc_4.2, pd_10⟩
abbrev M_X11_leave : tb_Mt := (yX11_leave, cX11_leave, 4, some .int, [])
theorem cd_X11_leave : tb_CD M_X11_leave 1 := ⟨(tb_mm tw_4_7.2.2.2.2.2.2.2.2.2.2.2.2.2.2.1 rfl), (tb_mm tw_1_0.1 rfl), nc_0.1, nc_0.2, pd_12⟩
abbrev M_X1_dropEntry : tb_Mt := (yX1_dropEntry, cX1_dropEntry, 4, none, [])
theorem cd_X1_dropEntry : tb_CD M_X1_dropEntry 1 := ⟨(tb_mm tw_4_8.2.2.1 rfl), (tb_mm tw_1_0.2.2.2.2.2.1 rfl), nc_4.1, nc_4.2, pd_10⟩
abbrev M_X11_room : tb_Mt := (yX11_room, cX11_room, 3, some .int, [])
theorem cd_X11_room : tb_CD M_X11_room 1 := ⟨(tb_mm tw_4_8.2.2.2.2.2.2.1 rfl), (tb_mm tw_1_0.1 rfl), nc_0.1, nc_0.2, pd_12⟩
abbrev M_X1_tellRoom : tb_Mt := (yX1_tellRoom, cX1_tellRoom, 2, none, [])
theorem cd_X1_tellRoom : tb_CD M_X1_tellRoom 1 := ⟨(tb_mm tw_4_8.2.2.2.2.2.2.2.2.2.2.1 rfl), (tb_mm tw_1_0.2.2.2.2.2.1 rfl), nc_4.1, nc_4.2, pd_10⟩
abbrev M_X11_draw : tb_Mt := (yX11_draw, cX11_draw, 3, some .int, [])
theorem cd_X11_draw : tb_CD M_X11_draw 2 := ⟨(tb_mm tw_4_8.2.2.2.2.2.2.2.2.2.2.2.2.2.2.1 rfl), (tb_mm tw_1_0.1 rfl), nc_0.1, nc_0.2, pd_14⟩
abbrev M_X2_drawn : tb_Mt := (yX2_drawn, cX2_drawn, 2, some .int, [])
theorem cd_X2_drawn : tb_CD M_X2_drawn 1 := ⟨(tb_mm tw_4_9.2.2.1 rfl), (tb_mm tw_1_0.2.2.2.2.2.2.2.1 rfl), nc_7.1, nc_7.2, pd_12⟩
abbrev M_X2_drawnPart : tb_Mt := (yX2_drawnPart, cX2_drawnPart, 9, some .int, [])
theorem cd_X2_drawnPart : tb_CD M_X2_drawnPart 1 := ⟨(tb_mm tw_4_9.2.2.2.2.2.2.2.2.2.1 rfl), (tb_mm tw_1_0.2.2.2.2.2.2.2.1 rfl), nc_7.1, nc_7.2, pd_12⟩
abbrev M_X2_drawOf : tb_Mt := (yX2_drawOf, cX2_drawOf, 2, some .int, [])
theorem cd_X2_drawOf : tb_CD M_X2_drawOf 1 := ⟨(tb_mm tw_4_9.2.2.2.2.2.2.2.2.2.2.2.2.2.1 rfl), (tb_mm tw_1_0.2.2.2.2.2.2.2.1 rfl), nc_7.1, nc_7.2, pd_12⟩
abbrev M_X11_undo : tb_Mt := (yX11_undo, cX11_undo, 1, some .int, [])
theorem cd_X11_undo : tb_CD M_X11_undo 0 := ⟨(tb_mm tw_4_10.2.2.1 rfl), (tb_mm tw_1_0.1 rfl), nc_0.1, nc_0.2, pd_11⟩
abbrev M_X0_undoLast : tb_Mt := (yX0_undoLast, cX0_undoLast, 1, some .int, [])
theorem cd_X0_undoLast : tb_CD M_X0_undoLast 0 := ⟨(tb_mm tw_4_10.2.2.2.2.2.2.1 rfl), (tb_mm tw_1_0.2.2.1 rfl), nc_5.1, nc_5.2, pd_11⟩
abbrev M_X11_image : tb_Mt := (yX11_image, cX11_image, 1, none, [])
theorem cd_X11_image : tb_CD M_X11_image 0 := ⟨(tb_mm tw_4_10.2.2.2.2.2.2.2.2.2.2.1 rfl), (tb_mm tw_1_0.1 rfl), nc_0.1, nc_0.2, pd_0⟩
abbrev M_X0_takeFrom : tb_Mt := (yX0_takeFrom, cX0_takeFrom, 4, none, [])
theorem pd_27 : (parseMethodDescriptor "(LTermBank$Core;)V").map (fun d => d.parameters.length) = some 1 := by decide +kernel
theorem cd_X0_takeFrom : tb_CD M_X0_takeFrom 1 := ⟨(tb_mm tw_4_10.2.2.2.2.2.2.2.2.2.2.2.2.2.2.1 rfl), (tb_mm tw_1_0.2.2.1 rfl), nc_5.1, nc_5.2, pd_27⟩
abbrev M_X9_takeFrom : tb_Mt := (yX9_takeFrom, cX9_takeFrom, 2, none, [])
theorem cd_X9_takeFrom : tb_CD M_X9_takeFrom 1 := ⟨(tb_mm tw_4_11.2.2.1 rfl), (tb_mm tw_1_0.2.2.2.1 rfl), nc_2.1, nc_2.2, pd_5⟩
abbrev M_X1_takeFrom : tb_Mt := (yX1_takeFrom, cX1_takeFrom, 2, none, [])
theorem pd_28 : (parseMethodDescriptor "(LTermBank$Ledger;)V").map (fun d => d.parameters.length) = some 1 := by decide +kernel
theorem cd_X1_takeFrom : tb_CD M_X1_takeFrom 1 := ⟨(tb_mm tw_4_11.2.2.2.2.2.2.2.1 rfl), (tb_mm tw_1_0.2.2.2.2.2.1 rfl), nc_4.1, nc_4.2, pd_28⟩
abbrev M_X11_restore : tb_Mt := (yX11_restore, cX11_restore, 1, some .boolean, [])
theorem cd_X11_restore : tb_CD M_X11_restore 0 := ⟨(tb_mm tw_4_11.2.2.2.2.2.2.2.2.2.2.2.2.1 rfl), (tb_mm tw_1_0.1 rfl), nc_0.1, nc_0.2, pd_26⟩
abbrev M_L_bank : tb_Mt := (yL_bank, cL_bank, 4, some .int, [(0, 9, 12, 13)])
theorem ch_L_bank : Cond.codeWith M_L_bank.1 M_L_bank.2.1 M_L_bank.2.2.1 M_L_bank.2.2.2.1 M_L_bank.2.2.2.2 ∈ tb_W := (tb_mm tw_4_11.2.2.2.2.2.2.2.2.2.2.2.2.2.2.2 rfl)
abbrev M_X11_bank : tb_Mt := (yX11_bank, cX11_bank, 3, some .int, [])
theorem cd_X11_bank : tb_CD M_X11_bank 1 := ⟨(tb_mm tw_4_12.2.2.2.2.1 rfl), (tb_mm tw_1_0.1 rfl), nc_0.1, nc_0.2, pd_12⟩
abbrev M_X11_setAside : tb_Mt := (yX11_setAside, cX11_setAside, 1, none, [])
theorem cd_X11_setAside : tb_CD M_X11_setAside 0 := ⟨(tb_mm tw_5_1.2.2.2.2.1 rfl), (tb_mm tw_1_0.1 rfl), nc_0.1, nc_0.2, pd_0⟩
abbrev M_X8_takeFrom : tb_Mt := (yX8_takeFrom, cX8_takeFrom, 2, none, [])
theorem cd_X8_takeFrom : tb_CD M_X8_takeFrom 1 := ⟨(tb_mm tw_5_1.2.2.2.2.2.2.2.2 rfl), (tb_mm tw_1_0.2.1 rfl), nc_1.1, nc_1.2, pd_1⟩
abbrev M_X11_startAnew : tb_Mt := (yX11_startAnew, cX11_startAnew, 1, none, [])
theorem cd_X11_startAnew : tb_CD M_X11_startAnew 0 := ⟨(tb_mm tw_5_2.2.2.2.2.2.2.1 rfl), (tb_mm tw_1_0.1 rfl), nc_0.1, nc_0.2, pd_0⟩
abbrev M_X8_empty : tb_Mt := (yX8_empty, cX8_empty, 1, none, [])
theorem cd_X8_empty : tb_CD M_X8_empty 0 := ⟨(tb_mm tw_5_2.2.2.2.2.2.2.2.2.2.2.1 rfl), (tb_mm tw_1_0.2.1 rfl), nc_1.1, nc_1.2, pd_0⟩
abbrev M_X9_empty : tb_Mt := (yX9_empty, cX9_empty, 1, none, [])
theorem cd_X9_empty : tb_CD M_X9_empty 0 := ⟨(tb_mm tw_5_2.2.2.2.2.2.2.2.2.2.2.2.2.2.2.1 rfl), (tb_mm tw_1_0.2.2.2.1 rfl), nc_2.1, nc_2.2, pd_0⟩
abbrev M_X1_empty : tb_Mt := (yX1_empty, cX1_empty, 1, none, [])
theorem cd_X1_empty : tb_CD M_X1_empty 0 := ⟨(tb_mm tw_5_3.2.2.1 rfl), (tb_mm tw_1_0.2.2.2.2.2.1 rfl), nc_4.1, nc_4.2, pd_0⟩
abbrev M_X5_readBank : tb_Mt := (yX5_readBank, cX5_readBank, 3, some .int, [])
theorem cd_X5_readBank : tb_CD M_X5_readBank 1 := ⟨(tb_mm tw_5_3.2.2.2.2.2.2.1 rfl), (tb_mm tw_1_0.2.2.2.2.2.2.2.2.2.2.2.2.1 rfl), nc_12.1, nc_12.2, pd_12⟩
abbrev M_X5_next : tb_Mt := (yX5_next, cX5_next, 1, none, [])
theorem cd_X5_next : tb_CD M_X5_next 0 := ⟨(tb_mm tw_5_3.2.2.2.2.2.2.2.2.2.2.2.1 rfl), (tb_mm tw_1_0.2.2.2.2.2.2.2.2.2.2.2.2.1 rfl), nc_12.1, nc_12.2, pd_0⟩
