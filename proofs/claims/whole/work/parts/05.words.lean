theorem wd_109 : (Jvm.Cond.laysFinal "AlgebraTree$Expressions" "AlgebraTree$Expressions" "kind" "[I") ∈ gv_tbl := gv_in (List.mem_of_getElem? (i := 109) (by decide +kernel)) rfl
theorem wd_111 : (Jvm.Cond.laysFinal "AlgebraTree$Expressions" "AlgebraTree$Expressions" "first" "[I") ∈ gv_tbl := gv_in (List.mem_of_getElem? (i := 111) (by decide +kernel)) rfl
theorem wd_113 : (Jvm.Cond.laysFinal "AlgebraTree$Expressions" "AlgebraTree$Expressions" "second" "[I") ∈ gv_tbl := gv_in (List.mem_of_getElem? (i := 113) (by decide +kernel)) rfl
theorem wd_115 : (Jvm.Cond.laysFinal "AlgebraTree$Expressions" "AlgebraTree$Expressions" "parts" "[I") ∈ gv_tbl := gv_in (List.mem_of_getElem? (i := 115) (by decide +kernel)) rfl
theorem wd_117 : (Jvm.Cond.laysFinal "AlgebraTree$Expressions" "AlgebraTree$Expressions" "values" "[I") ∈ gv_tbl := gv_in (List.mem_of_getElem? (i := 117) (by decide +kernel)) rfl
theorem wd_119 : (Jvm.Cond.lays "AlgebraTree$Expressions" "AlgebraTree$Expressions" "size" "I") ∈ gv_tbl := gv_in (List.mem_of_getElem? (i := 119) (by decide +kernel)) rfl
theorem in_0 : ∀ w ∈ u_ws RX0 TX0 6, w ∈ gv_tbl := by
  show ∀ w ∈ [(Jvm.Cond.laysFinal "AlgebraTree$Expressions" "AlgebraTree$Expressions" "kind" "[I"), (Jvm.Cond.laysFinal "AlgebraTree$Expressions" "AlgebraTree$Expressions" "first" "[I"), (Jvm.Cond.laysFinal "AlgebraTree$Expressions" "AlgebraTree$Expressions" "second" "[I"), (Jvm.Cond.laysFinal "AlgebraTree$Expressions" "AlgebraTree$Expressions" "parts" "[I"), (Jvm.Cond.laysFinal "AlgebraTree$Expressions" "AlgebraTree$Expressions" "values" "[I"), (Jvm.Cond.lays "AlgebraTree$Expressions" "AlgebraTree$Expressions" "size" "I")], w ∈ gv_tbl
  exact List.forall_mem_cons.mpr ⟨wd_109, List.forall_mem_cons.mpr ⟨wd_111, List.forall_mem_cons.mpr ⟨wd_113, List.forall_mem_cons.mpr ⟨wd_115, List.forall_mem_cons.mpr ⟨wd_117, List.forall_mem_cons.mpr ⟨wd_119, fun _ h => absurd h List.not_mem_nil⟩⟩⟩⟩⟩⟩
theorem wd_149 : (Jvm.Cond.laysFinal "AlgebraTree$Maker" "AlgebraTree$Maker" "triples" "LAlgebraTree$Triples;") ∈ gv_tbl := gv_in (List.mem_of_getElem? (i := 149) (by decide +kernel)) rfl
theorem wd_151 : (Jvm.Cond.laysFinal "AlgebraTree$Maker" "AlgebraTree$Maker" "expressions" "LAlgebraTree$Expressions;") ∈ gv_tbl := gv_in (List.mem_of_getElem? (i := 151) (by decide +kernel)) rfl
theorem wd_153 : (Jvm.Cond.laysFinal "AlgebraTree$Maker" "AlgebraTree$Maker" "nodes" "LAlgebraTree$Nodes;") ∈ gv_tbl := gv_in (List.mem_of_getElem? (i := 153) (by decide +kernel)) rfl
theorem wd_155 : (Jvm.Cond.laysFinal "AlgebraTree$Maker" "AlgebraTree$Maker" "tables" "[LAlgebraTree$Rows;") ∈ gv_tbl := gv_in (List.mem_of_getElem? (i := 155) (by decide +kernel)) rfl
theorem wd_157 : (Jvm.Cond.laysFinal "AlgebraTree$Maker" "AlgebraTree$Maker" "wantedGraphs" "[I") ∈ gv_tbl := gv_in (List.mem_of_getElem? (i := 157) (by decide +kernel)) rfl
theorem wd_159 : (Jvm.Cond.laysFinal "AlgebraTree$Maker" "AlgebraTree$Maker" "keys" "[I") ∈ gv_tbl := gv_in (List.mem_of_getElem? (i := 159) (by decide +kernel)) rfl
theorem wd_161 : (Jvm.Cond.laysFinal "AlgebraTree$Maker" "AlgebraTree$Maker" "places" "[I") ∈ gv_tbl := gv_in (List.mem_of_getElem? (i := 161) (by decide +kernel)) rfl
theorem in_1 : ∀ w ∈ u_ws RX1 TX1 7, w ∈ gv_tbl := by
  show ∀ w ∈ [(Jvm.Cond.laysFinal "AlgebraTree$Maker" "AlgebraTree$Maker" "triples" "LAlgebraTree$Triples;"), (Jvm.Cond.laysFinal "AlgebraTree$Maker" "AlgebraTree$Maker" "expressions" "LAlgebraTree$Expressions;"), (Jvm.Cond.laysFinal "AlgebraTree$Maker" "AlgebraTree$Maker" "nodes" "LAlgebraTree$Nodes;"), (Jvm.Cond.laysFinal "AlgebraTree$Maker" "AlgebraTree$Maker" "tables" "[LAlgebraTree$Rows;"), (Jvm.Cond.laysFinal "AlgebraTree$Maker" "AlgebraTree$Maker" "wantedGraphs" "[I"), (Jvm.Cond.laysFinal "AlgebraTree$Maker" "AlgebraTree$Maker" "keys" "[I"), (Jvm.Cond.laysFinal "AlgebraTree$Maker" "AlgebraTree$Maker" "places" "[I")], w ∈ gv_tbl
  exact List.forall_mem_cons.mpr ⟨wd_149, List.forall_mem_cons.mpr ⟨wd_151, List.forall_mem_cons.mpr ⟨wd_153, List.forall_mem_cons.mpr ⟨wd_155, List.forall_mem_cons.mpr ⟨wd_157, List.forall_mem_cons.mpr ⟨wd_159, List.forall_mem_cons.mpr ⟨wd_161, fun _ h => absurd h List.not_mem_nil⟩⟩⟩⟩⟩⟩⟩
theorem wd_299 : (Jvm.Cond.laysFinal "AlgebraTree$Node" "AlgebraTree$Node" "kind" "I") ∈ gv_tbl := gv_in (List.mem_of_getElem? (i := 299) (by decide +kernel)) rfl
theorem wd_301 : (Jvm.Cond.laysFinal "AlgebraTree$Node" "AlgebraTree$Node" "a" "I") ∈ gv_tbl := gv_in (List.mem_of_getElem? (i := 301) (by decide +kernel)) rfl
theorem wd_303 : (Jvm.Cond.laysFinal "AlgebraTree$Node" "AlgebraTree$Node" "b" "I") ∈ gv_tbl := gv_in (List.mem_of_getElem? (i := 303) (by decide +kernel)) rfl
theorem wd_305 : (Jvm.Cond.lays "AlgebraTree$Node" "AlgebraTree$Node" "s" "I") ∈ gv_tbl := gv_in (List.mem_of_getElem? (i := 305) (by decide +kernel)) rfl
theorem wd_307 : (Jvm.Cond.lays "AlgebraTree$Node" "AlgebraTree$Node" "p" "I") ∈ gv_tbl := gv_in (List.mem_of_getElem? (i := 307) (by decide +kernel)) rfl
theorem wd_309 : (Jvm.Cond.lays "AlgebraTree$Node" "AlgebraTree$Node" "o" "I") ∈ gv_tbl := gv_in (List.mem_of_getElem? (i := 309) (by decide +kernel)) rfl
theorem wd_311 : (Jvm.Cond.lays "AlgebraTree$Node" "AlgebraTree$Node" "expression" "I") ∈ gv_tbl := gv_in (List.mem_of_getElem? (i := 311) (by decide +kernel)) rfl
theorem wd_313 : (Jvm.Cond.lays "AlgebraTree$Node" "AlgebraTree$Node" "variable" "I") ∈ gv_tbl := gv_in (List.mem_of_getElem? (i := 313) (by decide +kernel)) rfl
theorem wd_315 : (Jvm.Cond.lays "AlgebraTree$Node" "AlgebraTree$Node" "set" "I") ∈ gv_tbl := gv_in (List.mem_of_getElem? (i := 315) (by decide +kernel)) rfl
theorem wd_317 : (Jvm.Cond.lays "AlgebraTree$Node" "AlgebraTree$Node" "from" "I") ∈ gv_tbl := gv_in (List.mem_of_getElem? (i := 317) (by decide +kernel)) rfl
theorem wd_319 : (Jvm.Cond.lays "AlgebraTree$Node" "AlgebraTree$Node" "length" "I") ∈ gv_tbl := gv_in (List.mem_of_getElem? (i := 319) (by decide +kernel)) rfl
theorem wd_321 : (Jvm.Cond.lays "AlgebraTree$Node" "AlgebraTree$Node" "down" "Z") ∈ gv_tbl := gv_in (List.mem_of_getElem? (i := 321) (by decide +kernel)) rfl
theorem wd_323 : (Jvm.Cond.lays "AlgebraTree$Node" "AlgebraTree$Node" "aggregate" "I") ∈ gv_tbl := gv_in (List.mem_of_getElem? (i := 323) (by decide +kernel)) rfl
theorem wd_325 : (Jvm.Cond.lays "AlgebraTree$Node" "AlgebraTree$Node" "graph" "I") ∈ gv_tbl := gv_in (List.mem_of_getElem? (i := 325) (by decide +kernel)) rfl
theorem in_2 : ∀ w ∈ u_ws RX2 TX2 14, w ∈ gv_tbl := by
  show ∀ w ∈ [(Jvm.Cond.laysFinal "AlgebraTree$Node" "AlgebraTree$Node" "kind" "I"), (Jvm.Cond.laysFinal "AlgebraTree$Node" "AlgebraTree$Node" "a" "I"), (Jvm.Cond.laysFinal "AlgebraTree$Node" "AlgebraTree$Node" "b" "I"), (Jvm.Cond.lays "AlgebraTree$Node" "AlgebraTree$Node" "s" "I"), (Jvm.Cond.lays "AlgebraTree$Node" "AlgebraTree$Node" "p" "I"), (Jvm.Cond.lays "AlgebraTree$Node" "AlgebraTree$Node" "o" "I"), (Jvm.Cond.lays "AlgebraTree$Node" "AlgebraTree$Node" "expression" "I"), (Jvm.Cond.lays "AlgebraTree$Node" "AlgebraTree$Node" "variable" "I"), (Jvm.Cond.lays "AlgebraTree$Node" "AlgebraTree$Node" "set" "I"), (Jvm.Cond.lays "AlgebraTree$Node" "AlgebraTree$Node" "from" "I"), (Jvm.Cond.lays "AlgebraTree$Node" "AlgebraTree$Node" "length" "I"), (Jvm.Cond.lays "AlgebraTree$Node" "AlgebraTree$Node" "down" "Z"), (Jvm.Cond.lays "AlgebraTree$Node" "AlgebraTree$Node" "aggregate" "I"), (Jvm.Cond.lays "AlgebraTree$Node" "AlgebraTree$Node" "graph" "I")], w ∈ gv_tbl
  exact List.forall_mem_cons.mpr ⟨wd_299, List.forall_mem_cons.mpr ⟨wd_301, List.forall_mem_cons.mpr ⟨wd_303, List.forall_mem_cons.mpr ⟨wd_305, List.forall_mem_cons.mpr ⟨wd_307, List.forall_mem_cons.mpr ⟨wd_309, List.forall_mem_cons.mpr ⟨wd_311, List.forall_mem_cons.mpr ⟨wd_313, List.forall_mem_cons.mpr ⟨wd_315, List.forall_mem_cons.mpr ⟨wd_317, List.forall_mem_cons.mpr ⟨wd_319, List.forall_mem_cons.mpr ⟨wd_321, List.forall_mem_cons.mpr ⟨wd_323, List.forall_mem_cons.mpr ⟨wd_325, fun _ h => absurd h List.not_mem_nil⟩⟩⟩⟩⟩⟩⟩⟩⟩⟩⟩⟩⟩⟩
theorem wd_132 : (Jvm.Cond.laysFinal "AlgebraTree$Nodes" "AlgebraTree$Nodes" "list" "[LAlgebraTree$Node;") ∈ gv_tbl := gv_in (List.mem_of_getElem? (i := 132) (by decide +kernel)) rfl
theorem wd_134 : (Jvm.Cond.lays "AlgebraTree$Nodes" "AlgebraTree$Nodes" "size" "I") ∈ gv_tbl := gv_in (List.mem_of_getElem? (i := 134) (by decide +kernel)) rfl
theorem in_3 : ∀ w ∈ u_ws RX3 TX3 2, w ∈ gv_tbl := by
  show ∀ w ∈ [(Jvm.Cond.laysFinal "AlgebraTree$Nodes" "AlgebraTree$Nodes" "list" "[LAlgebraTree$Node;"), (Jvm.Cond.lays "AlgebraTree$Nodes" "AlgebraTree$Nodes" "size" "I")], w ∈ gv_tbl
  exact List.forall_mem_cons.mpr ⟨wd_132, List.forall_mem_cons.mpr ⟨wd_134, fun _ h => absurd h List.not_mem_nil⟩⟩
theorem wd_179 : (Jvm.Cond.laysFinal "AlgebraTree$Rows" "AlgebraTree$Rows" "cells" "[I") ∈ gv_tbl := gv_in (List.mem_of_getElem? (i := 179) (by decide +kernel)) rfl
theorem wd_181 : (Jvm.Cond.lays "AlgebraTree$Rows" "AlgebraTree$Rows" "size" "I") ∈ gv_tbl := gv_in (List.mem_of_getElem? (i := 181) (by decide +kernel)) rfl
theorem wd_183 : (Jvm.Cond.lays "AlgebraTree$Rows" "AlgebraTree$Rows" "tooLong" "Z") ∈ gv_tbl := gv_in (List.mem_of_getElem? (i := 183) (by decide +kernel)) rfl
theorem wd_185 : (Jvm.Cond.lays "AlgebraTree$Rows" "AlgebraTree$Rows" "madeAt" "I") ∈ gv_tbl := gv_in (List.mem_of_getElem? (i := 185) (by decide +kernel)) rfl
theorem in_4 : ∀ w ∈ u_ws RX4 TX4 4, w ∈ gv_tbl := by
  show ∀ w ∈ [(Jvm.Cond.laysFinal "AlgebraTree$Rows" "AlgebraTree$Rows" "cells" "[I"), (Jvm.Cond.lays "AlgebraTree$Rows" "AlgebraTree$Rows" "size" "I"), (Jvm.Cond.lays "AlgebraTree$Rows" "AlgebraTree$Rows" "tooLong" "Z"), (Jvm.Cond.lays "AlgebraTree$Rows" "AlgebraTree$Rows" "madeAt" "I")], w ∈ gv_tbl
  exact List.forall_mem_cons.mpr ⟨wd_179, List.forall_mem_cons.mpr ⟨wd_181, List.forall_mem_cons.mpr ⟨wd_183, List.forall_mem_cons.mpr ⟨wd_185, fun _ h => absurd h List.not_mem_nil⟩⟩⟩⟩
theorem wd_85 : (Jvm.Cond.laysFinal "AlgebraTree$Triples" "AlgebraTree$Triples" "graph" "[I") ∈ gv_tbl := gv_in (List.mem_of_getElem? (i := 85) (by decide +kernel)) rfl
theorem wd_87 : (Jvm.Cond.laysFinal "AlgebraTree$Triples" "AlgebraTree$Triples" "s" "[I") ∈ gv_tbl := gv_in (List.mem_of_getElem? (i := 87) (by decide +kernel)) rfl
theorem wd_89 : (Jvm.Cond.laysFinal "AlgebraTree$Triples" "AlgebraTree$Triples" "p" "[I") ∈ gv_tbl := gv_in (List.mem_of_getElem? (i := 89) (by decide +kernel)) rfl
theorem wd_91 : (Jvm.Cond.laysFinal "AlgebraTree$Triples" "AlgebraTree$Triples" "o" "[I") ∈ gv_tbl := gv_in (List.mem_of_getElem? (i := 91) (by decide +kernel)) rfl
theorem wd_93 : (Jvm.Cond.lays "AlgebraTree$Triples" "AlgebraTree$Triples" "size" "I") ∈ gv_tbl := gv_in (List.mem_of_getElem? (i := 93) (by decide +kernel)) rfl
theorem in_5 : ∀ w ∈ u_ws RX5 TX5 5, w ∈ gv_tbl := by
  show ∀ w ∈ [(Jvm.Cond.laysFinal "AlgebraTree$Triples" "AlgebraTree$Triples" "graph" "[I"), (Jvm.Cond.laysFinal "AlgebraTree$Triples" "AlgebraTree$Triples" "s" "[I"), (Jvm.Cond.laysFinal "AlgebraTree$Triples" "AlgebraTree$Triples" "p" "[I"), (Jvm.Cond.laysFinal "AlgebraTree$Triples" "AlgebraTree$Triples" "o" "[I"), (Jvm.Cond.lays "AlgebraTree$Triples" "AlgebraTree$Triples" "size" "I")], w ∈ gv_tbl
  exact List.forall_mem_cons.mpr ⟨wd_85, List.forall_mem_cons.mpr ⟨wd_87, List.forall_mem_cons.mpr ⟨wd_89, List.forall_mem_cons.mpr ⟨wd_91, List.forall_mem_cons.mpr ⟨wd_93, fun _ h => absurd h List.not_mem_nil⟩⟩⟩⟩⟩
theorem wd_193 : (Jvm.Cond.laysFinal "AlgebraTree" "AlgebraTree" "maker" "LAlgebraTree$Maker;") ∈ gv_tbl := gv_in (List.mem_of_getElem? (i := 193) (by decide +kernel)) rfl
theorem wd_195 : (Jvm.Cond.laysFinal "AlgebraTree" "AlgebraTree" "triples" "LAlgebraTree$Triples;") ∈ gv_tbl := gv_in (List.mem_of_getElem? (i := 195) (by decide +kernel)) rfl
theorem wd_197 : (Jvm.Cond.laysFinal "AlgebraTree" "AlgebraTree" "expressions" "LAlgebraTree$Expressions;") ∈ gv_tbl := gv_in (List.mem_of_getElem? (i := 197) (by decide +kernel)) rfl
theorem wd_199 : (Jvm.Cond.laysFinal "AlgebraTree" "AlgebraTree" "nodes" "LAlgebraTree$Nodes;") ∈ gv_tbl := gv_in (List.mem_of_getElem? (i := 199) (by decide +kernel)) rfl
theorem wd_201 : (Jvm.Cond.laysFinal "AlgebraTree" "AlgebraTree" "told" "LAlgebraTree$Rows;") ∈ gv_tbl := gv_in (List.mem_of_getElem? (i := 201) (by decide +kernel)) rfl
theorem in_6 : ∀ w ∈ u_ws RX6 TX6 5, w ∈ gv_tbl := by
  show ∀ w ∈ [(Jvm.Cond.laysFinal "AlgebraTree" "AlgebraTree" "maker" "LAlgebraTree$Maker;"), (Jvm.Cond.laysFinal "AlgebraTree" "AlgebraTree" "triples" "LAlgebraTree$Triples;"), (Jvm.Cond.laysFinal "AlgebraTree" "AlgebraTree" "expressions" "LAlgebraTree$Expressions;"), (Jvm.Cond.laysFinal "AlgebraTree" "AlgebraTree" "nodes" "LAlgebraTree$Nodes;"), (Jvm.Cond.laysFinal "AlgebraTree" "AlgebraTree" "told" "LAlgebraTree$Rows;")], w ∈ gv_tbl
  exact List.forall_mem_cons.mpr ⟨wd_193, List.forall_mem_cons.mpr ⟨wd_195, List.forall_mem_cons.mpr ⟨wd_197, List.forall_mem_cons.mpr ⟨wd_199, List.forall_mem_cons.mpr ⟨wd_201, fun _ h => absurd h List.not_mem_nil⟩⟩⟩⟩⟩
theorem wd_643 : (Jvm.Cond.lays "AlgebraTreeModel" "AlgebraTreeModel" "triples" "I") ∈ gv_tbl := gv_in (List.mem_of_getElem? (i := 643) (by decide +kernel)) rfl
theorem wd_645 : (Jvm.Cond.laysFinal "AlgebraTreeModel" "AlgebraTreeModel" "told" "[I") ∈ gv_tbl := gv_in (List.mem_of_getElem? (i := 645) (by decide +kernel)) rfl
theorem wd_647 : (Jvm.Cond.lays "AlgebraTreeModel" "AlgebraTreeModel" "expressions" "I") ∈ gv_tbl := gv_in (List.mem_of_getElem? (i := 647) (by decide +kernel)) rfl
theorem wd_649 : (Jvm.Cond.laysFinal "AlgebraTreeModel" "AlgebraTreeModel" "asks" "[I") ∈ gv_tbl := gv_in (List.mem_of_getElem? (i := 649) (by decide +kernel)) rfl
theorem wd_651 : (Jvm.Cond.laysFinal "AlgebraTreeModel" "AlgebraTreeModel" "values" "[I") ∈ gv_tbl := gv_in (List.mem_of_getElem? (i := 651) (by decide +kernel)) rfl
theorem wd_653 : (Jvm.Cond.lays "AlgebraTreeModel" "AlgebraTreeModel" "nodes" "I") ∈ gv_tbl := gv_in (List.mem_of_getElem? (i := 653) (by decide +kernel)) rfl
theorem wd_655 : (Jvm.Cond.laysFinal "AlgebraTreeModel" "AlgebraTreeModel" "made" "[I") ∈ gv_tbl := gv_in (List.mem_of_getElem? (i := 655) (by decide +kernel)) rfl
theorem wd_657 : (Jvm.Cond.lays "AlgebraTreeModel" "AlgebraTreeModel" "known" "Z") ∈ gv_tbl := gv_in (List.mem_of_getElem? (i := 657) (by decide +kernel)) rfl
theorem wd_659 : (Jvm.Cond.laysFinal "AlgebraTreeModel" "AlgebraTreeModel" "rows" "[I") ∈ gv_tbl := gv_in (List.mem_of_getElem? (i := 659) (by decide +kernel)) rfl
theorem wd_661 : (Jvm.Cond.laysFinal "AlgebraTreeModel" "AlgebraTreeModel" "counts" "[I") ∈ gv_tbl := gv_in (List.mem_of_getElem? (i := 661) (by decide +kernel)) rfl
theorem wd_663 : (Jvm.Cond.laysFinal "AlgebraTreeModel" "AlgebraTreeModel" "now" "[I") ∈ gv_tbl := gv_in (List.mem_of_getElem? (i := 663) (by decide +kernel)) rfl
theorem wd_665 : (Jvm.Cond.lays "AlgebraTreeModel" "AlgebraTreeModel" "shown" "I") ∈ gv_tbl := gv_in (List.mem_of_getElem? (i := 665) (by decide +kernel)) rfl
theorem wd_667 : (Jvm.Cond.laysFinal "AlgebraTreeModel" "AlgebraTreeModel" "shows" "[I") ∈ gv_tbl := gv_in (List.mem_of_getElem? (i := 667) (by decide +kernel)) rfl
theorem wd_669 : (Jvm.Cond.laysFinal "AlgebraTreeModel" "AlgebraTreeModel" "keys" "[I") ∈ gv_tbl := gv_in (List.mem_of_getElem? (i := 669) (by decide +kernel)) rfl
theorem wd_671 : (Jvm.Cond.laysFinal "AlgebraTreeModel" "AlgebraTreeModel" "places" "[I") ∈ gv_tbl := gv_in (List.mem_of_getElem? (i := 671) (by decide +kernel)) rfl
theorem in_7 : ∀ w ∈ u_ws RX7 TX7 15, w ∈ gv_tbl := by
  show ∀ w ∈ [(Jvm.Cond.lays "AlgebraTreeModel" "AlgebraTreeModel" "triples" "I"), (Jvm.Cond.laysFinal "AlgebraTreeModel" "AlgebraTreeModel" "told" "[I"), (Jvm.Cond.lays "AlgebraTreeModel" "AlgebraTreeModel" "expressions" "I"), (Jvm.Cond.laysFinal "AlgebraTreeModel" "AlgebraTreeModel" "asks" "[I"), (Jvm.Cond.laysFinal "AlgebraTreeModel" "AlgebraTreeModel" "values" "[I"), (Jvm.Cond.lays "AlgebraTreeModel" "AlgebraTreeModel" "nodes" "I"), (Jvm.Cond.laysFinal "AlgebraTreeModel" "AlgebraTreeModel" "made" "[I"), (Jvm.Cond.lays "AlgebraTreeModel" "AlgebraTreeModel" "known" "Z"), (Jvm.Cond.laysFinal "AlgebraTreeModel" "AlgebraTreeModel" "rows" "[I"), (Jvm.Cond.laysFinal "AlgebraTreeModel" "AlgebraTreeModel" "counts" "[I"), (Jvm.Cond.laysFinal "AlgebraTreeModel" "AlgebraTreeModel" "now" "[I"), (Jvm.Cond.lays "AlgebraTreeModel" "AlgebraTreeModel" "shown" "I"), (Jvm.Cond.laysFinal "AlgebraTreeModel" "AlgebraTreeModel" "shows" "[I"), (Jvm.Cond.laysFinal "AlgebraTreeModel" "AlgebraTreeModel" "keys" "[I"), (Jvm.Cond.laysFinal "AlgebraTreeModel" "AlgebraTreeModel" "places" "[I")], w ∈ gv_tbl
  exact List.forall_mem_cons.mpr ⟨wd_643, List.forall_mem_cons.mpr ⟨wd_645, List.forall_mem_cons.mpr ⟨wd_647, List.forall_mem_cons.mpr ⟨wd_649, List.forall_mem_cons.mpr ⟨wd_651, List.forall_mem_cons.mpr ⟨wd_653, List.forall_mem_cons.mpr ⟨wd_655, List.forall_mem_cons.mpr ⟨wd_657, List.forall_mem_cons.mpr ⟨wd_659, List.forall_mem_cons.mpr ⟨wd_661, List.forall_mem_cons.mpr ⟨wd_663, List.forall_mem_cons.mpr ⟨wd_665, List.forall_mem_cons.mpr ⟨wd_667, List.forall_mem_cons.mpr ⟨wd_669, List.forall_mem_cons.mpr ⟨wd_671, fun _ h => absurd h List.not_mem_nil⟩⟩⟩⟩⟩⟩⟩⟩⟩⟩⟩⟩⟩⟩⟩
theorem pf_0_0 : gv_PF 0 0 (.array .int) true := ⟨RX0, TX0, 6, tyX0, rfl, tyX0_ok, nmX0, rfl, tyX0_ok 0 (by decide), rfl⟩
theorem pf_0_1 : gv_PF 0 1 (.array .int) true := ⟨RX0, TX0, 6, tyX0, rfl, tyX0_ok, nmX0, rfl, tyX0_ok 1 (by decide), rfl⟩
theorem pf_0_2 : gv_PF 0 2 (.array .int) true := ⟨RX0, TX0, 6, tyX0, rfl, tyX0_ok, nmX0, rfl, tyX0_ok 2 (by decide), rfl⟩
theorem pf_0_3 : gv_PF 0 3 (.array .int) true := ⟨RX0, TX0, 6, tyX0, rfl, tyX0_ok, nmX0, rfl, tyX0_ok 3 (by decide), rfl⟩
theorem pf_0_4 : gv_PF 0 4 (.array .int) true := ⟨RX0, TX0, 6, tyX0, rfl, tyX0_ok, nmX0, rfl, tyX0_ok 4 (by decide), rfl⟩
theorem pf_0_5 : gv_PF 0 5 .int false := ⟨RX0, TX0, 6, tyX0, rfl, tyX0_ok, nmX0, rfl, tyX0_ok 5 (by decide), rfl⟩
theorem pf_1_0 : gv_PF 1 0 (.object "AlgebraTree$Triples") true := ⟨RX1, TX1, 7, tyX1, rfl, tyX1_ok, nmX1, rfl, tyX1_ok 0 (by decide), rfl⟩
theorem pf_1_1 : gv_PF 1 1 (.object "AlgebraTree$Expressions") true := ⟨RX1, TX1, 7, tyX1, rfl, tyX1_ok, nmX1, rfl, tyX1_ok 1 (by decide), rfl⟩
theorem pf_1_2 : gv_PF 1 2 (.object "AlgebraTree$Nodes") true := ⟨RX1, TX1, 7, tyX1, rfl, tyX1_ok, nmX1, rfl, tyX1_ok 2 (by decide), rfl⟩
theorem pf_1_3 : gv_PF 1 3 (.array (.object "AlgebraTree$Rows")) true := ⟨RX1, TX1, 7, tyX1, rfl, tyX1_ok, nmX1, rfl, tyX1_ok 3 (by decide), rfl⟩
theorem pf_1_4 : gv_PF 1 4 (.array .int) true := ⟨RX1, TX1, 7, tyX1, rfl, tyX1_ok, nmX1, rfl, tyX1_ok 4 (by decide), rfl⟩
theorem pf_1_5 : gv_PF 1 5 (.array .int) true := ⟨RX1, TX1, 7, tyX1, rfl, tyX1_ok, nmX1, rfl, tyX1_ok 5 (by decide), rfl⟩
theorem pf_1_6 : gv_PF 1 6 (.array .int) true := ⟨RX1, TX1, 7, tyX1, rfl, tyX1_ok, nmX1, rfl, tyX1_ok 6 (by decide), rfl⟩
theorem pf_2_0 : gv_PF 2 0 .int true := ⟨RX2, TX2, 14, tyX2, rfl, tyX2_ok, nmX2, rfl, tyX2_ok 0 (by decide), rfl⟩
theorem pf_2_1 : gv_PF 2 1 .int true := ⟨RX2, TX2, 14, tyX2, rfl, tyX2_ok, nmX2, rfl, tyX2_ok 1 (by decide), rfl⟩
theorem pf_2_2 : gv_PF 2 2 .int true := ⟨RX2, TX2, 14, tyX2, rfl, tyX2_ok, nmX2, rfl, tyX2_ok 2 (by decide), rfl⟩
theorem pf_2_3 : gv_PF 2 3 .int false := ⟨RX2, TX2, 14, tyX2, rfl, tyX2_ok, nmX2, rfl, tyX2_ok 3 (by decide), rfl⟩
theorem pf_2_4 : gv_PF 2 4 .int false := ⟨RX2, TX2, 14, tyX2, rfl, tyX2_ok, nmX2, rfl, tyX2_ok 4 (by decide), rfl⟩
theorem pf_2_5 : gv_PF 2 5 .int false := ⟨RX2, TX2, 14, tyX2, rfl, tyX2_ok, nmX2, rfl, tyX2_ok 5 (by decide), rfl⟩
theorem pf_2_6 : gv_PF 2 6 .int false := ⟨RX2, TX2, 14, tyX2, rfl, tyX2_ok, nmX2, rfl, tyX2_ok 6 (by decide), rfl⟩
theorem pf_2_7 : gv_PF 2 7 .int false := ⟨RX2, TX2, 14, tyX2, rfl, tyX2_ok, nmX2, rfl, tyX2_ok 7 (by decide), rfl⟩
theorem pf_2_8 : gv_PF 2 8 .int false := ⟨RX2, TX2, 14, tyX2, rfl, tyX2_ok, nmX2, rfl, tyX2_ok 8 (by decide), rfl⟩
theorem pf_2_9 : gv_PF 2 9 .int false := ⟨RX2, TX2, 14, tyX2, rfl, tyX2_ok, nmX2, rfl, tyX2_ok 9 (by decide), rfl⟩
theorem pf_2_10 : gv_PF 2 10 .int false := ⟨RX2, TX2, 14, tyX2, rfl, tyX2_ok, nmX2, rfl, tyX2_ok 10 (by decide), rfl⟩
theorem pf_2_11 : gv_PF 2 11 .boolean false := ⟨RX2, TX2, 14, tyX2, rfl, tyX2_ok, nmX2, rfl, tyX2_ok 11 (by decide), rfl⟩
theorem pf_2_12 : gv_PF 2 12 .int false := ⟨RX2, TX2, 14, tyX2, rfl, tyX2_ok, nmX2, rfl, tyX2_ok 12 (by decide), rfl⟩
theorem pf_2_13 : gv_PF 2 13 .int false := ⟨RX2, TX2, 14, tyX2, rfl, tyX2_ok, nmX2, rfl, tyX2_ok 13 (by decide), rfl⟩
theorem pf_3_0 : gv_PF 3 0 (.array (.object "AlgebraTree$Node")) true := ⟨RX3, TX3, 2, tyX3, rfl, tyX3_ok, nmX3, rfl, tyX3_ok 0 (by decide), rfl⟩
theorem pf_3_1 : gv_PF 3 1 .int false := ⟨RX3, TX3, 2, tyX3, rfl, tyX3_ok, nmX3, rfl, tyX3_ok 1 (by decide), rfl⟩
theorem pf_4_0 : gv_PF 4 0 (.array .int) true := ⟨RX4, TX4, 4, tyX4, rfl, tyX4_ok, nmX4, rfl, tyX4_ok 0 (by decide), rfl⟩
theorem pf_4_1 : gv_PF 4 1 .int false := ⟨RX4, TX4, 4, tyX4, rfl, tyX4_ok, nmX4, rfl, tyX4_ok 1 (by decide), rfl⟩
theorem pf_4_2 : gv_PF 4 2 .boolean false := ⟨RX4, TX4, 4, tyX4, rfl, tyX4_ok, nmX4, rfl, tyX4_ok 2 (by decide), rfl⟩
theorem pf_4_3 : gv_PF 4 3 .int false := ⟨RX4, TX4, 4, tyX4, rfl, tyX4_ok, nmX4, rfl, tyX4_ok 3 (by decide), rfl⟩
theorem pf_5_0 : gv_PF 5 0 (.array .int) true := ⟨RX5, TX5, 5, tyX5, rfl, tyX5_ok, nmX5, rfl, tyX5_ok 0 (by decide), rfl⟩
theorem pf_5_1 : gv_PF 5 1 (.array .int) true := ⟨RX5, TX5, 5, tyX5, rfl, tyX5_ok, nmX5, rfl, tyX5_ok 1 (by decide), rfl⟩
theorem pf_5_2 : gv_PF 5 2 (.array .int) true := ⟨RX5, TX5, 5, tyX5, rfl, tyX5_ok, nmX5, rfl, tyX5_ok 2 (by decide), rfl⟩
theorem pf_5_3 : gv_PF 5 3 (.array .int) true := ⟨RX5, TX5, 5, tyX5, rfl, tyX5_ok, nmX5, rfl, tyX5_ok 3 (by decide), rfl⟩
theorem pf_5_4 : gv_PF 5 4 .int false := ⟨RX5, TX5, 5, tyX5, rfl, tyX5_ok, nmX5, rfl, tyX5_ok 4 (by decide), rfl⟩
theorem pf_6_0 : gv_PF 6 0 (.object "AlgebraTree$Maker") true := ⟨RX6, TX6, 5, tyX6, rfl, tyX6_ok, nmX6, rfl, tyX6_ok 0 (by decide), rfl⟩
theorem pf_6_1 : gv_PF 6 1 (.object "AlgebraTree$Triples") true := ⟨RX6, TX6, 5, tyX6, rfl, tyX6_ok, nmX6, rfl, tyX6_ok 1 (by decide), rfl⟩
theorem pf_6_2 : gv_PF 6 2 (.object "AlgebraTree$Expressions") true := ⟨RX6, TX6, 5, tyX6, rfl, tyX6_ok, nmX6, rfl, tyX6_ok 2 (by decide), rfl⟩
theorem pf_6_3 : gv_PF 6 3 (.object "AlgebraTree$Nodes") true := ⟨RX6, TX6, 5, tyX6, rfl, tyX6_ok, nmX6, rfl, tyX6_ok 3 (by decide), rfl⟩
theorem pf_6_4 : gv_PF 6 4 (.object "AlgebraTree$Rows") true := ⟨RX6, TX6, 5, tyX6, rfl, tyX6_ok, nmX6, rfl, tyX6_ok 4 (by decide), rfl⟩
theorem pf_7_0 : gv_PF 7 0 .int false := ⟨RX7, TX7, 15, tyX7, rfl, tyX7_ok, nmX7, rfl, tyX7_ok 0 (by decide), rfl⟩
theorem pf_7_1 : gv_PF 7 1 (.array .int) true := ⟨RX7, TX7, 15, tyX7, rfl, tyX7_ok, nmX7, rfl, tyX7_ok 1 (by decide), rfl⟩
theorem pf_7_2 : gv_PF 7 2 .int false := ⟨RX7, TX7, 15, tyX7, rfl, tyX7_ok, nmX7, rfl, tyX7_ok 2 (by decide), rfl⟩
theorem pf_7_3 : gv_PF 7 3 (.array .int) true := ⟨RX7, TX7, 15, tyX7, rfl, tyX7_ok, nmX7, rfl, tyX7_ok 3 (by decide), rfl⟩
theorem pf_7_4 : gv_PF 7 4 (.array .int) true := ⟨RX7, TX7, 15, tyX7, rfl, tyX7_ok, nmX7, rfl, tyX7_ok 4 (by decide), rfl⟩
theorem pf_7_5 : gv_PF 7 5 .int false := ⟨RX7, TX7, 15, tyX7, rfl, tyX7_ok, nmX7, rfl, tyX7_ok 5 (by decide), rfl⟩
theorem pf_7_6 : gv_PF 7 6 (.array .int) true := ⟨RX7, TX7, 15, tyX7, rfl, tyX7_ok, nmX7, rfl, tyX7_ok 6 (by decide), rfl⟩
theorem pf_7_7 : gv_PF 7 7 .boolean false := ⟨RX7, TX7, 15, tyX7, rfl, tyX7_ok, nmX7, rfl, tyX7_ok 7 (by decide), rfl⟩
theorem pf_7_8 : gv_PF 7 8 (.array .int) true := ⟨RX7, TX7, 15, tyX7, rfl, tyX7_ok, nmX7, rfl, tyX7_ok 8 (by decide), rfl⟩
theorem pf_7_9 : gv_PF 7 9 (.array .int) true := ⟨RX7, TX7, 15, tyX7, rfl, tyX7_ok, nmX7, rfl, tyX7_ok 9 (by decide), rfl⟩
theorem pf_7_10 : gv_PF 7 10 (.array .int) true := ⟨RX7, TX7, 15, tyX7, rfl, tyX7_ok, nmX7, rfl, tyX7_ok 10 (by decide), rfl⟩
theorem pf_7_11 : gv_PF 7 11 .int false := ⟨RX7, TX7, 15, tyX7, rfl, tyX7_ok, nmX7, rfl, tyX7_ok 11 (by decide), rfl⟩
theorem pf_7_12 : gv_PF 7 12 (.array .int) true := ⟨RX7, TX7, 15, tyX7, rfl, tyX7_ok, nmX7, rfl, tyX7_ok 12 (by decide), rfl⟩
theorem pf_7_13 : gv_PF 7 13 (.array .int) true := ⟨RX7, TX7, 15, tyX7, rfl, tyX7_ok, nmX7, rfl, tyX7_ok 13 (by decide), rfl⟩
theorem pf_7_14 : gv_PF 7 14 (.array .int) true := ⟨RX7, TX7, 15, tyX7, rfl, tyX7_ok, nmX7, rfl, tyX7_ok 14 (by decide), rfl⟩
theorem wd_188 : (Jvm.Cond.fieldLink "AlgebraTree" (12 : Nat) "AlgebraTree" "maker" "LAlgebraTree$Maker;") ∈ gv_tbl := gv_in (List.mem_of_getElem? (i := 188) (by decide +kernel)) rfl
theorem fl_6_12 : gv_F "AlgebraTree" 12 6 0 := ⟨RX6, TX6, 5, rfl, in_6, by decide, Or.inl wd_188⟩
theorem ff_6_12 : ∃ (T : u_T) (N : Nat), classes[6]? = some ("AlgebraTree", T, N) ∧ (∀ w ∈ u_ws "AlgebraTree" T N, w ∈ gv_tbl) ∧ 0 < N ∧ Cond.fieldLink "AlgebraTree" 12 (T 0).1 (T 0).2.1 (T 0).2.2.1 ∈ gv_tbl := ⟨TX6, 5, rfl, in_6, by decide, wd_188⟩
theorem wd_140 : (Jvm.Cond.fieldLink "AlgebraTree" (16 : Nat) "AlgebraTree$Maker" "triples" "LAlgebraTree$Triples;") ∈ gv_tbl := gv_in (List.mem_of_getElem? (i := 140) (by decide +kernel)) rfl
theorem fl_6_16 : gv_F "AlgebraTree" 16 1 0 := ⟨RX1, TX1, 7, rfl, in_1, by decide, Or.inl wd_140⟩
theorem wd_189 : (Jvm.Cond.fieldLink "AlgebraTree" (20 : Nat) "AlgebraTree" "triples" "LAlgebraTree$Triples;") ∈ gv_tbl := gv_in (List.mem_of_getElem? (i := 189) (by decide +kernel)) rfl
theorem fl_6_20 : gv_F "AlgebraTree" 20 6 1 := ⟨RX6, TX6, 5, rfl, in_6, by decide, Or.inl wd_189⟩
theorem ff_6_20 : ∃ (T : u_T) (N : Nat), classes[6]? = some ("AlgebraTree", T, N) ∧ (∀ w ∈ u_ws "AlgebraTree" T N, w ∈ gv_tbl) ∧ 1 < N ∧ Cond.fieldLink "AlgebraTree" 20 (T 1).1 (T 1).2.1 (T 1).2.2.1 ∈ gv_tbl := ⟨TX6, 5, rfl, in_6, by decide, wd_189⟩
theorem wd_142 : (Jvm.Cond.fieldLink "AlgebraTree" (21 : Nat) "AlgebraTree$Maker" "expressions" "LAlgebraTree$Expressions;") ∈ gv_tbl := gv_in (List.mem_of_getElem? (i := 142) (by decide +kernel)) rfl
theorem fl_6_21 : gv_F "AlgebraTree" 21 1 1 := ⟨RX1, TX1, 7, rfl, in_1, by decide, Or.inl wd_142⟩
theorem wd_190 : (Jvm.Cond.fieldLink "AlgebraTree" (25 : Nat) "AlgebraTree" "expressions" "LAlgebraTree$Expressions;") ∈ gv_tbl := gv_in (List.mem_of_getElem? (i := 190) (by decide +kernel)) rfl
theorem fl_6_25 : gv_F "AlgebraTree" 25 6 2 := ⟨RX6, TX6, 5, rfl, in_6, by decide, Or.inl wd_190⟩
theorem ff_6_25 : ∃ (T : u_T) (N : Nat), classes[6]? = some ("AlgebraTree", T, N) ∧ (∀ w ∈ u_ws "AlgebraTree" T N, w ∈ gv_tbl) ∧ 2 < N ∧ Cond.fieldLink "AlgebraTree" 25 (T 2).1 (T 2).2.1 (T 2).2.2.1 ∈ gv_tbl := ⟨TX6, 5, rfl, in_6, by decide, wd_190⟩
theorem wd_144 : (Jvm.Cond.fieldLink "AlgebraTree" (26 : Nat) "AlgebraTree$Maker" "nodes" "LAlgebraTree$Nodes;") ∈ gv_tbl := gv_in (List.mem_of_getElem? (i := 144) (by decide +kernel)) rfl
theorem fl_6_26 : gv_F "AlgebraTree" 26 1 2 := ⟨RX1, TX1, 7, rfl, in_1, by decide, Or.inl wd_144⟩
theorem wd_191 : (Jvm.Cond.fieldLink "AlgebraTree" (30 : Nat) "AlgebraTree" "nodes" "LAlgebraTree$Nodes;") ∈ gv_tbl := gv_in (List.mem_of_getElem? (i := 191) (by decide +kernel)) rfl
theorem fl_6_30 : gv_F "AlgebraTree" 30 6 3 := ⟨RX6, TX6, 5, rfl, in_6, by decide, Or.inl wd_191⟩
theorem ff_6_30 : ∃ (T : u_T) (N : Nat), classes[6]? = some ("AlgebraTree", T, N) ∧ (∀ w ∈ u_ws "AlgebraTree" T N, w ∈ gv_tbl) ∧ 3 < N ∧ Cond.fieldLink "AlgebraTree" 30 (T 3).1 (T 3).2.1 (T 3).2.2.1 ∈ gv_tbl := ⟨TX6, 5, rfl, in_6, by decide, wd_191⟩
theorem wd_192 : (Jvm.Cond.fieldLink "AlgebraTree" (34 : Nat) "AlgebraTree" "told" "LAlgebraTree$Rows;") ∈ gv_tbl := gv_in (List.mem_of_getElem? (i := 192) (by decide +kernel)) rfl
theorem fl_6_34 : gv_F "AlgebraTree" 34 6 4 := ⟨RX6, TX6, 5, rfl, in_6, by decide, Or.inl wd_192⟩
theorem ff_6_34 : ∃ (T : u_T) (N : Nat), classes[6]? = some ("AlgebraTree", T, N) ∧ (∀ w ∈ u_ws "AlgebraTree" T N, w ∈ gv_tbl) ∧ 4 < N ∧ Cond.fieldLink "AlgebraTree" 34 (T 4).1 (T 4).2.1 (T 4).2.2.1 ∈ gv_tbl := ⟨TX6, 5, rfl, in_6, by decide, wd_192⟩
theorem wd_277 : (Jvm.Cond.fieldLink "AlgebraTree" (87 : Nat) "AlgebraTree$Node" "s" "I") ∈ gv_tbl := gv_in (List.mem_of_getElem? (i := 277) (by decide +kernel)) rfl
theorem fl_6_87 : gv_F "AlgebraTree" 87 2 3 := ⟨RX2, TX2, 14, rfl, in_2, by decide, Or.inl wd_277⟩
theorem wd_279 : (Jvm.Cond.fieldLink "AlgebraTree" (91 : Nat) "AlgebraTree$Node" "p" "I") ∈ gv_tbl := gv_in (List.mem_of_getElem? (i := 279) (by decide +kernel)) rfl
theorem fl_6_91 : gv_F "AlgebraTree" 91 2 4 := ⟨RX2, TX2, 14, rfl, in_2, by decide, Or.inl wd_279⟩
theorem wd_281 : (Jvm.Cond.fieldLink "AlgebraTree" (94 : Nat) "AlgebraTree$Node" "o" "I") ∈ gv_tbl := gv_in (List.mem_of_getElem? (i := 281) (by decide +kernel)) rfl
theorem fl_6_94 : gv_F "AlgebraTree" 94 2 5 := ⟨RX2, TX2, 14, rfl, in_2, by decide, Or.inl wd_281⟩
theorem wd_283 : (Jvm.Cond.fieldLink "AlgebraTree" (104 : Nat) "AlgebraTree$Node" "expression" "I") ∈ gv_tbl := gv_in (List.mem_of_getElem? (i := 283) (by decide +kernel)) rfl
theorem fl_6_104 : gv_F "AlgebraTree" 104 2 6 := ⟨RX2, TX2, 14, rfl, in_2, by decide, Or.inl wd_283⟩
theorem wd_285 : (Jvm.Cond.fieldLink "AlgebraTree" (107 : Nat) "AlgebraTree$Node" "variable" "I") ∈ gv_tbl := gv_in (List.mem_of_getElem? (i := 285) (by decide +kernel)) rfl
theorem fl_6_107 : gv_F "AlgebraTree" 107 2 7 := ⟨RX2, TX2, 14, rfl, in_2, by decide, Or.inl wd_285⟩
theorem wd_288 : (Jvm.Cond.fieldLink "AlgebraTree" (110 : Nat) "AlgebraTree$Node" "set" "I") ∈ gv_tbl := gv_in (List.mem_of_getElem? (i := 288) (by decide +kernel)) rfl
theorem fl_6_110 : gv_F "AlgebraTree" 110 2 8 := ⟨RX2, TX2, 14, rfl, in_2, by decide, Or.inl wd_288⟩
theorem wd_289 : (Jvm.Cond.fieldLink "AlgebraTree" (116 : Nat) "AlgebraTree$Node" "from" "I") ∈ gv_tbl := gv_in (List.mem_of_getElem? (i := 289) (by decide +kernel)) rfl
theorem fl_6_116 : gv_F "AlgebraTree" 116 2 9 := ⟨RX2, TX2, 14, rfl, in_2, by decide, Or.inl wd_289⟩
theorem wd_291 : (Jvm.Cond.fieldLink "AlgebraTree" (119 : Nat) "AlgebraTree$Node" "length" "I") ∈ gv_tbl := gv_in (List.mem_of_getElem? (i := 291) (by decide +kernel)) rfl
theorem fl_6_119 : gv_F "AlgebraTree" 119 2 10 := ⟨RX2, TX2, 14, rfl, in_2, by decide, Or.inl wd_291⟩
theorem wd_293 : (Jvm.Cond.fieldLink "AlgebraTree" (122 : Nat) "AlgebraTree$Node" "down" "Z") ∈ gv_tbl := gv_in (List.mem_of_getElem? (i := 293) (by decide +kernel)) rfl
theorem fl_6_122 : gv_F "AlgebraTree" 122 2 11 := ⟨RX2, TX2, 14, rfl, in_2, by decide, Or.inl wd_293⟩
theorem wd_295 : (Jvm.Cond.fieldLink "AlgebraTree" (129 : Nat) "AlgebraTree$Node" "aggregate" "I") ∈ gv_tbl := gv_in (List.mem_of_getElem? (i := 295) (by decide +kernel)) rfl
theorem fl_6_129 : gv_F "AlgebraTree" 129 2 12 := ⟨RX2, TX2, 14, rfl, in_2, by decide, Or.inl wd_295⟩
theorem wd_298 : (Jvm.Cond.fieldLink "AlgebraTree" (132 : Nat) "AlgebraTree$Node" "graph" "I") ∈ gv_tbl := gv_in (List.mem_of_getElem? (i := 298) (by decide +kernel)) rfl
theorem fl_6_132 : gv_F "AlgebraTree" 132 2 13 := ⟨RX2, TX2, 14, rfl, in_2, by decide, Or.inl wd_298⟩
theorem wd_176 : (Jvm.Cond.fieldLink "AlgebraTree" (139 : Nat) "AlgebraTree$Rows" "tooLong" "Z") ∈ gv_tbl := gv_in (List.mem_of_getElem? (i := 176) (by decide +kernel)) rfl
theorem fl_6_139 : gv_F "AlgebraTree" 139 4 2 := ⟨RX4, TX4, 4, rfl, in_4, by decide, Or.inl wd_176⟩
theorem wd_173 : (Jvm.Cond.fieldLink "AlgebraTree" (146 : Nat) "AlgebraTree$Rows" "size" "I") ∈ gv_tbl := gv_in (List.mem_of_getElem? (i := 173) (by decide +kernel)) rfl
theorem fl_6_146 : gv_F "AlgebraTree" 146 4 1 := ⟨RX4, TX4, 4, rfl, in_4, by decide, Or.inl wd_173⟩
theorem wd_103 : (Jvm.Cond.fieldLink "AlgebraTree$Expressions" (9 : Nat) "AlgebraTree$Expressions" "kind" "[I") ∈ gv_tbl := gv_in (List.mem_of_getElem? (i := 103) (by decide +kernel)) rfl
theorem fl_0_9 : gv_F "AlgebraTree$Expressions" 9 0 0 := ⟨RX0, TX0, 6, rfl, in_0, by decide, Or.inl wd_103⟩
theorem ff_0_9 : ∃ (T : u_T) (N : Nat), classes[0]? = some ("AlgebraTree$Expressions", T, N) ∧ (∀ w ∈ u_ws "AlgebraTree$Expressions" T N, w ∈ gv_tbl) ∧ 0 < N ∧ Cond.fieldLink "AlgebraTree$Expressions" 9 (T 0).1 (T 0).2.1 (T 0).2.2.1 ∈ gv_tbl := ⟨TX0, 6, rfl, in_0, by decide, wd_103⟩
theorem wd_104 : (Jvm.Cond.fieldLink "AlgebraTree$Expressions" (15 : Nat) "AlgebraTree$Expressions" "first" "[I") ∈ gv_tbl := gv_in (List.mem_of_getElem? (i := 104) (by decide +kernel)) rfl
theorem fl_0_15 : gv_F "AlgebraTree$Expressions" 15 0 1 := ⟨RX0, TX0, 6, rfl, in_0, by decide, Or.inl wd_104⟩
theorem ff_0_15 : ∃ (T : u_T) (N : Nat), classes[0]? = some ("AlgebraTree$Expressions", T, N) ∧ (∀ w ∈ u_ws "AlgebraTree$Expressions" T N, w ∈ gv_tbl) ∧ 1 < N ∧ Cond.fieldLink "AlgebraTree$Expressions" 15 (T 1).1 (T 1).2.1 (T 1).2.2.1 ∈ gv_tbl := ⟨TX0, 6, rfl, in_0, by decide, wd_104⟩
theorem wd_105 : (Jvm.Cond.fieldLink "AlgebraTree$Expressions" (18 : Nat) "AlgebraTree$Expressions" "second" "[I") ∈ gv_tbl := gv_in (List.mem_of_getElem? (i := 105) (by decide +kernel)) rfl
theorem fl_0_18 : gv_F "AlgebraTree$Expressions" 18 0 2 := ⟨RX0, TX0, 6, rfl, in_0, by decide, Or.inl wd_105⟩
theorem ff_0_18 : ∃ (T : u_T) (N : Nat), classes[0]? = some ("AlgebraTree$Expressions", T, N) ∧ (∀ w ∈ u_ws "AlgebraTree$Expressions" T N, w ∈ gv_tbl) ∧ 2 < N ∧ Cond.fieldLink "AlgebraTree$Expressions" 18 (T 2).1 (T 2).2.1 (T 2).2.2.1 ∈ gv_tbl := ⟨TX0, 6, rfl, in_0, by decide, wd_105⟩
theorem wd_106 : (Jvm.Cond.fieldLink "AlgebraTree$Expressions" (21 : Nat) "AlgebraTree$Expressions" "parts" "[I") ∈ gv_tbl := gv_in (List.mem_of_getElem? (i := 106) (by decide +kernel)) rfl
theorem fl_0_21 : gv_F "AlgebraTree$Expressions" 21 0 3 := ⟨RX0, TX0, 6, rfl, in_0, by decide, Or.inl wd_106⟩
theorem ff_0_21 : ∃ (T : u_T) (N : Nat), classes[0]? = some ("AlgebraTree$Expressions", T, N) ∧ (∀ w ∈ u_ws "AlgebraTree$Expressions" T N, w ∈ gv_tbl) ∧ 3 < N ∧ Cond.fieldLink "AlgebraTree$Expressions" 21 (T 3).1 (T 3).2.1 (T 3).2.2.1 ∈ gv_tbl := ⟨TX0, 6, rfl, in_0, by decide, wd_106⟩
theorem wd_107 : (Jvm.Cond.fieldLink "AlgebraTree$Expressions" (24 : Nat) "AlgebraTree$Expressions" "values" "[I") ∈ gv_tbl := gv_in (List.mem_of_getElem? (i := 107) (by decide +kernel)) rfl
theorem fl_0_24 : gv_F "AlgebraTree$Expressions" 24 0 4 := ⟨RX0, TX0, 6, rfl, in_0, by decide, Or.inl wd_107⟩
theorem ff_0_24 : ∃ (T : u_T) (N : Nat), classes[0]? = some ("AlgebraTree$Expressions", T, N) ∧ (∀ w ∈ u_ws "AlgebraTree$Expressions" T N, w ∈ gv_tbl) ∧ 4 < N ∧ Cond.fieldLink "AlgebraTree$Expressions" 24 (T 4).1 (T 4).2.1 (T 4).2.2.1 ∈ gv_tbl := ⟨TX0, 6, rfl, in_0, by decide, wd_107⟩
theorem wd_108 : (Jvm.Cond.fieldLink "AlgebraTree$Expressions" (27 : Nat) "AlgebraTree$Expressions" "size" "I") ∈ gv_tbl := gv_in (List.mem_of_getElem? (i := 108) (by decide +kernel)) rfl
theorem fl_0_27 : gv_F "AlgebraTree$Expressions" 27 0 5 := ⟨RX0, TX0, 6, rfl, in_0, by decide, Or.inl wd_108⟩
theorem wd_139 : (Jvm.Cond.fieldLink "AlgebraTree$Maker" (12 : Nat) "AlgebraTree$Maker" "triples" "LAlgebraTree$Triples;") ∈ gv_tbl := gv_in (List.mem_of_getElem? (i := 139) (by decide +kernel)) rfl
theorem fl_1_12 : gv_F "AlgebraTree$Maker" 12 1 0 := ⟨RX1, TX1, 7, rfl, in_1, by decide, Or.inl wd_139⟩
theorem ff_1_12 : ∃ (T : u_T) (N : Nat), classes[1]? = some ("AlgebraTree$Maker", T, N) ∧ (∀ w ∈ u_ws "AlgebraTree$Maker" T N, w ∈ gv_tbl) ∧ 0 < N ∧ Cond.fieldLink "AlgebraTree$Maker" 12 (T 0).1 (T 0).2.1 (T 0).2.2.1 ∈ gv_tbl := ⟨TX1, 7, rfl, in_1, by decide, wd_139⟩
theorem wd_141 : (Jvm.Cond.fieldLink "AlgebraTree$Maker" (21 : Nat) "AlgebraTree$Maker" "expressions" "LAlgebraTree$Expressions;") ∈ gv_tbl := gv_in (List.mem_of_getElem? (i := 141) (by decide +kernel)) rfl
theorem fl_1_21 : gv_F "AlgebraTree$Maker" 21 1 1 := ⟨RX1, TX1, 7, rfl, in_1, by decide, Or.inl wd_141⟩
theorem ff_1_21 : ∃ (T : u_T) (N : Nat), classes[1]? = some ("AlgebraTree$Maker", T, N) ∧ (∀ w ∈ u_ws "AlgebraTree$Maker" T N, w ∈ gv_tbl) ∧ 1 < N ∧ Cond.fieldLink "AlgebraTree$Maker" 21 (T 1).1 (T 1).2.1 (T 1).2.2.1 ∈ gv_tbl := ⟨TX1, 7, rfl, in_1, by decide, wd_141⟩
theorem wd_143 : (Jvm.Cond.fieldLink "AlgebraTree$Maker" (28 : Nat) "AlgebraTree$Maker" "nodes" "LAlgebraTree$Nodes;") ∈ gv_tbl := gv_in (List.mem_of_getElem? (i := 143) (by decide +kernel)) rfl
theorem fl_1_28 : gv_F "AlgebraTree$Maker" 28 1 2 := ⟨RX1, TX1, 7, rfl, in_1, by decide, Or.inl wd_143⟩
theorem ff_1_28 : ∃ (T : u_T) (N : Nat), classes[1]? = some ("AlgebraTree$Maker", T, N) ∧ (∀ w ∈ u_ws "AlgebraTree$Maker" T N, w ∈ gv_tbl) ∧ 2 < N ∧ Cond.fieldLink "AlgebraTree$Maker" 28 (T 2).1 (T 2).2.1 (T 2).2.2.1 ∈ gv_tbl := ⟨TX1, 7, rfl, in_1, by decide, wd_143⟩
theorem wd_145 : (Jvm.Cond.fieldLink "AlgebraTree$Maker" (34 : Nat) "AlgebraTree$Maker" "tables" "[LAlgebraTree$Rows;") ∈ gv_tbl := gv_in (List.mem_of_getElem? (i := 145) (by decide +kernel)) rfl
theorem fl_1_34 : gv_F "AlgebraTree$Maker" 34 1 3 := ⟨RX1, TX1, 7, rfl, in_1, by decide, Or.inl wd_145⟩
theorem ff_1_34 : ∃ (T : u_T) (N : Nat), classes[1]? = some ("AlgebraTree$Maker", T, N) ∧ (∀ w ∈ u_ws "AlgebraTree$Maker" T N, w ∈ gv_tbl) ∧ 3 < N ∧ Cond.fieldLink "AlgebraTree$Maker" 34 (T 3).1 (T 3).2.1 (T 3).2.2.1 ∈ gv_tbl := ⟨TX1, 7, rfl, in_1, by decide, wd_145⟩
theorem wd_146 : (Jvm.Cond.fieldLink "AlgebraTree$Maker" (38 : Nat) "AlgebraTree$Maker" "wantedGraphs" "[I") ∈ gv_tbl := gv_in (List.mem_of_getElem? (i := 146) (by decide +kernel)) rfl
theorem fl_1_38 : gv_F "AlgebraTree$Maker" 38 1 4 := ⟨RX1, TX1, 7, rfl, in_1, by decide, Or.inl wd_146⟩
theorem ff_1_38 : ∃ (T : u_T) (N : Nat), classes[1]? = some ("AlgebraTree$Maker", T, N) ∧ (∀ w ∈ u_ws "AlgebraTree$Maker" T N, w ∈ gv_tbl) ∧ 4 < N ∧ Cond.fieldLink "AlgebraTree$Maker" 38 (T 4).1 (T 4).2.1 (T 4).2.2.1 ∈ gv_tbl := ⟨TX1, 7, rfl, in_1, by decide, wd_146⟩
theorem wd_147 : (Jvm.Cond.fieldLink "AlgebraTree$Maker" (42 : Nat) "AlgebraTree$Maker" "keys" "[I") ∈ gv_tbl := gv_in (List.mem_of_getElem? (i := 147) (by decide +kernel)) rfl
theorem fl_1_42 : gv_F "AlgebraTree$Maker" 42 1 5 := ⟨RX1, TX1, 7, rfl, in_1, by decide, Or.inl wd_147⟩
theorem ff_1_42 : ∃ (T : u_T) (N : Nat), classes[1]? = some ("AlgebraTree$Maker", T, N) ∧ (∀ w ∈ u_ws "AlgebraTree$Maker" T N, w ∈ gv_tbl) ∧ 5 < N ∧ Cond.fieldLink "AlgebraTree$Maker" 42 (T 5).1 (T 5).2.1 (T 5).2.2.1 ∈ gv_tbl := ⟨TX1, 7, rfl, in_1, by decide, wd_147⟩
theorem wd_148 : (Jvm.Cond.fieldLink "AlgebraTree$Maker" (45 : Nat) "AlgebraTree$Maker" "places" "[I") ∈ gv_tbl := gv_in (List.mem_of_getElem? (i := 148) (by decide +kernel)) rfl
theorem fl_1_45 : gv_F "AlgebraTree$Maker" 45 1 6 := ⟨RX1, TX1, 7, rfl, in_1, by decide, Or.inl wd_148⟩
theorem ff_1_45 : ∃ (T : u_T) (N : Nat), classes[1]? = some ("AlgebraTree$Maker", T, N) ∧ (∀ w ∈ u_ws "AlgebraTree$Maker" T N, w ∈ gv_tbl) ∧ 6 < N ∧ Cond.fieldLink "AlgebraTree$Maker" 45 (T 6).1 (T 6).2.1 (T 6).2.2.1 ∈ gv_tbl := ⟨TX1, 7, rfl, in_1, by decide, wd_148⟩
theorem wd_274 : (Jvm.Cond.fieldLink "AlgebraTree$Maker" (68 : Nat) "AlgebraTree$Node" "a" "I") ∈ gv_tbl := gv_in (List.mem_of_getElem? (i := 274) (by decide +kernel)) rfl
theorem fl_1_68 : gv_F "AlgebraTree$Maker" 68 2 1 := ⟨RX2, TX2, 14, rfl, in_2, by decide, Or.inl wd_274⟩
theorem wd_276 : (Jvm.Cond.fieldLink "AlgebraTree$Maker" (74 : Nat) "AlgebraTree$Node" "b" "I") ∈ gv_tbl := gv_in (List.mem_of_getElem? (i := 276) (by decide +kernel)) rfl
theorem fl_1_74 : gv_F "AlgebraTree$Maker" 74 2 2 := ⟨RX2, TX2, 14, rfl, in_2, by decide, Or.inl wd_276⟩
theorem wd_272 : (Jvm.Cond.fieldLink "AlgebraTree$Maker" (77 : Nat) "AlgebraTree$Node" "kind" "I") ∈ gv_tbl := gv_in (List.mem_of_getElem? (i := 272) (by decide +kernel)) rfl
theorem fl_1_77 : gv_F "AlgebraTree$Maker" 77 2 0 := ⟨RX2, TX2, 14, rfl, in_2, by decide, Or.inl wd_272⟩
theorem wd_297 : (Jvm.Cond.fieldLink "AlgebraTree$Maker" (80 : Nat) "AlgebraTree$Node" "graph" "I") ∈ gv_tbl := gv_in (List.mem_of_getElem? (i := 297) (by decide +kernel)) rfl
theorem fl_1_80 : gv_F "AlgebraTree$Maker" 80 2 13 := ⟨RX2, TX2, 14, rfl, in_2, by decide, Or.inl wd_297⟩
theorem wd_178 : (Jvm.Cond.fieldLink "AlgebraTree$Maker" (84 : Nat) "AlgebraTree$Rows" "madeAt" "I") ∈ gv_tbl := gv_in (List.mem_of_getElem? (i := 178) (by decide +kernel)) rfl
theorem fl_1_84 : gv_F "AlgebraTree$Maker" 84 4 3 := ⟨RX4, TX4, 4, rfl, in_4, by decide, Or.inl wd_178⟩
theorem wd_84 : (Jvm.Cond.fieldLink "AlgebraTree$Maker" (87 : Nat) "AlgebraTree$Triples" "size" "I") ∈ gv_tbl := gv_in (List.mem_of_getElem? (i := 84) (by decide +kernel)) rfl
theorem fl_1_87 : gv_F "AlgebraTree$Maker" 87 5 4 := ⟨RX5, TX5, 5, rfl, in_5, by decide, Or.inl wd_84⟩
theorem wd_175 : (Jvm.Cond.fieldLink "AlgebraTree$Maker" (109 : Nat) "AlgebraTree$Rows" "tooLong" "Z") ∈ gv_tbl := gv_in (List.mem_of_getElem? (i := 175) (by decide +kernel)) rfl
theorem fl_1_109 : gv_F "AlgebraTree$Maker" 109 4 2 := ⟨RX4, TX4, 4, rfl, in_4, by decide, Or.inl wd_175⟩
theorem wd_287 : (Jvm.Cond.fieldLink "AlgebraTree$Maker" (135 : Nat) "AlgebraTree$Node" "set" "I") ∈ gv_tbl := gv_in (List.mem_of_getElem? (i := 287) (by decide +kernel)) rfl
theorem fl_1_135 : gv_F "AlgebraTree$Maker" 135 2 8 := ⟨RX2, TX2, 14, rfl, in_2, by decide, Or.inl wd_287⟩
theorem wd_76 : (Jvm.Cond.fieldLink "AlgebraTree$Maker" (155 : Nat) "AlgebraTree$Triples" "graph" "[I") ∈ gv_tbl := gv_in (List.mem_of_getElem? (i := 76) (by decide +kernel)) rfl
theorem fl_1_155 : gv_F "AlgebraTree$Maker" 155 5 0 := ⟨RX5, TX5, 5, rfl, in_5, by decide, Or.inl wd_76⟩
theorem wd_278 : (Jvm.Cond.fieldLink "AlgebraTree$Maker" (160 : Nat) "AlgebraTree$Node" "s" "I") ∈ gv_tbl := gv_in (List.mem_of_getElem? (i := 278) (by decide +kernel)) rfl
theorem fl_1_160 : gv_F "AlgebraTree$Maker" 160 2 3 := ⟨RX2, TX2, 14, rfl, in_2, by decide, Or.inl wd_278⟩
theorem wd_78 : (Jvm.Cond.fieldLink "AlgebraTree$Maker" (163 : Nat) "AlgebraTree$Triples" "s" "[I") ∈ gv_tbl := gv_in (List.mem_of_getElem? (i := 78) (by decide +kernel)) rfl
theorem fl_1_163 : gv_F "AlgebraTree$Maker" 163 5 1 := ⟨RX5, TX5, 5, rfl, in_5, by decide, Or.inl wd_78⟩
theorem wd_280 : (Jvm.Cond.fieldLink "AlgebraTree$Maker" (169 : Nat) "AlgebraTree$Node" "p" "I") ∈ gv_tbl := gv_in (List.mem_of_getElem? (i := 280) (by decide +kernel)) rfl
theorem fl_1_169 : gv_F "AlgebraTree$Maker" 169 2 4 := ⟨RX2, TX2, 14, rfl, in_2, by decide, Or.inl wd_280⟩
theorem wd_80 : (Jvm.Cond.fieldLink "AlgebraTree$Maker" (172 : Nat) "AlgebraTree$Triples" "p" "[I") ∈ gv_tbl := gv_in (List.mem_of_getElem? (i := 80) (by decide +kernel)) rfl
theorem fl_1_172 : gv_F "AlgebraTree$Maker" 172 5 2 := ⟨RX5, TX5, 5, rfl, in_5, by decide, Or.inl wd_80⟩
theorem wd_282 : (Jvm.Cond.fieldLink "AlgebraTree$Maker" (174 : Nat) "AlgebraTree$Node" "o" "I") ∈ gv_tbl := gv_in (List.mem_of_getElem? (i := 282) (by decide +kernel)) rfl
theorem fl_1_174 : gv_F "AlgebraTree$Maker" 174 2 5 := ⟨RX2, TX2, 14, rfl, in_2, by decide, Or.inl wd_282⟩
theorem wd_82 : (Jvm.Cond.fieldLink "AlgebraTree$Maker" (177 : Nat) "AlgebraTree$Triples" "o" "[I") ∈ gv_tbl := gv_in (List.mem_of_getElem? (i := 82) (by decide +kernel)) rfl
theorem fl_1_177 : gv_F "AlgebraTree$Maker" 177 5 3 := ⟨RX5, TX5, 5, rfl, in_5, by decide, Or.inl wd_82⟩
theorem wd_172 : (Jvm.Cond.fieldLink "AlgebraTree$Maker" (186 : Nat) "AlgebraTree$Rows" "size" "I") ∈ gv_tbl := gv_in (List.mem_of_getElem? (i := 172) (by decide +kernel)) rfl
theorem fl_1_186 : gv_F "AlgebraTree$Maker" 186 4 1 := ⟨RX4, TX4, 4, rfl, in_4, by decide, Or.inl wd_172⟩
theorem wd_286 : (Jvm.Cond.fieldLink "AlgebraTree$Maker" (191 : Nat) "AlgebraTree$Node" "variable" "I") ∈ gv_tbl := gv_in (List.mem_of_getElem? (i := 286) (by decide +kernel)) rfl
theorem fl_1_191 : gv_F "AlgebraTree$Maker" 191 2 7 := ⟨RX2, TX2, 14, rfl, in_2, by decide, Or.inl wd_286⟩
theorem wd_284 : (Jvm.Cond.fieldLink "AlgebraTree$Maker" (213 : Nat) "AlgebraTree$Node" "expression" "I") ∈ gv_tbl := gv_in (List.mem_of_getElem? (i := 284) (by decide +kernel)) rfl
theorem fl_1_213 : gv_F "AlgebraTree$Maker" 213 2 6 := ⟨RX2, TX2, 14, rfl, in_2, by decide, Or.inl wd_284⟩
theorem wd_290 : (Jvm.Cond.fieldLink "AlgebraTree$Maker" (228 : Nat) "AlgebraTree$Node" "from" "I") ∈ gv_tbl := gv_in (List.mem_of_getElem? (i := 290) (by decide +kernel)) rfl
theorem fl_1_228 : gv_F "AlgebraTree$Maker" 228 2 9 := ⟨RX2, TX2, 14, rfl, in_2, by decide, Or.inl wd_290⟩
theorem wd_292 : (Jvm.Cond.fieldLink "AlgebraTree$Maker" (231 : Nat) "AlgebraTree$Node" "length" "I") ∈ gv_tbl := gv_in (List.mem_of_getElem? (i := 292) (by decide +kernel)) rfl
theorem fl_1_231 : gv_F "AlgebraTree$Maker" 231 2 10 := ⟨RX2, TX2, 14, rfl, in_2, by decide, Or.inl wd_292⟩
theorem wd_294 : (Jvm.Cond.fieldLink "AlgebraTree$Maker" (234 : Nat) "AlgebraTree$Node" "down" "Z") ∈ gv_tbl := gv_in (List.mem_of_getElem? (i := 294) (by decide +kernel)) rfl
theorem fl_1_234 : gv_F "AlgebraTree$Maker" 234 2 11 := ⟨RX2, TX2, 14, rfl, in_2, by decide, Or.inl wd_294⟩
theorem wd_296 : (Jvm.Cond.fieldLink "AlgebraTree$Maker" (265 : Nat) "AlgebraTree$Node" "aggregate" "I") ∈ gv_tbl := gv_in (List.mem_of_getElem? (i := 296) (by decide +kernel)) rfl
theorem fl_1_265 : gv_F "AlgebraTree$Maker" 265 2 12 := ⟨RX2, TX2, 14, rfl, in_2, by decide, Or.inl wd_296⟩
theorem wd_271 : (Jvm.Cond.fieldLink "AlgebraTree$Node" (7 : Nat) "AlgebraTree$Node" "kind" "I") ∈ gv_tbl := gv_in (List.mem_of_getElem? (i := 271) (by decide +kernel)) rfl
theorem fl_2_7 : gv_F "AlgebraTree$Node" 7 2 0 := ⟨RX2, TX2, 14, rfl, in_2, by decide, Or.inl wd_271⟩
theorem ff_2_7 : ∃ (T : u_T) (N : Nat), classes[2]? = some ("AlgebraTree$Node", T, N) ∧ (∀ w ∈ u_ws "AlgebraTree$Node" T N, w ∈ gv_tbl) ∧ 0 < N ∧ Cond.fieldLink "AlgebraTree$Node" 7 (T 0).1 (T 0).2.1 (T 0).2.2.1 ∈ gv_tbl := ⟨TX2, 14, rfl, in_2, by decide, wd_271⟩
theorem wd_273 : (Jvm.Cond.fieldLink "AlgebraTree$Node" (13 : Nat) "AlgebraTree$Node" "a" "I") ∈ gv_tbl := gv_in (List.mem_of_getElem? (i := 273) (by decide +kernel)) rfl
theorem fl_2_13 : gv_F "AlgebraTree$Node" 13 2 1 := ⟨RX2, TX2, 14, rfl, in_2, by decide, Or.inl wd_273⟩
theorem ff_2_13 : ∃ (T : u_T) (N : Nat), classes[2]? = some ("AlgebraTree$Node", T, N) ∧ (∀ w ∈ u_ws "AlgebraTree$Node" T N, w ∈ gv_tbl) ∧ 1 < N ∧ Cond.fieldLink "AlgebraTree$Node" 13 (T 1).1 (T 1).2.1 (T 1).2.2.1 ∈ gv_tbl := ⟨TX2, 14, rfl, in_2, by decide, wd_273⟩
theorem wd_275 : (Jvm.Cond.fieldLink "AlgebraTree$Node" (16 : Nat) "AlgebraTree$Node" "b" "I") ∈ gv_tbl := gv_in (List.mem_of_getElem? (i := 275) (by decide +kernel)) rfl
theorem fl_2_16 : gv_F "AlgebraTree$Node" 16 2 2 := ⟨RX2, TX2, 14, rfl, in_2, by decide, Or.inl wd_275⟩
theorem ff_2_16 : ∃ (T : u_T) (N : Nat), classes[2]? = some ("AlgebraTree$Node", T, N) ∧ (∀ w ∈ u_ws "AlgebraTree$Node" T N, w ∈ gv_tbl) ∧ 2 < N ∧ Cond.fieldLink "AlgebraTree$Node" 16 (T 2).1 (T 2).2.1 (T 2).2.2.1 ∈ gv_tbl := ⟨TX2, 14, rfl, in_2, by decide, wd_275⟩
theorem wd_130 : (Jvm.Cond.fieldLink "AlgebraTree$Nodes" (11 : Nat) "AlgebraTree$Nodes" "list" "[LAlgebraTree$Node;") ∈ gv_tbl := gv_in (List.mem_of_getElem? (i := 130) (by decide +kernel)) rfl
theorem fl_3_11 : gv_F "AlgebraTree$Nodes" 11 3 0 := ⟨RX3, TX3, 2, rfl, in_3, by decide, Or.inl wd_130⟩
theorem ff_3_11 : ∃ (T : u_T) (N : Nat), classes[3]? = some ("AlgebraTree$Nodes", T, N) ∧ (∀ w ∈ u_ws "AlgebraTree$Nodes" T N, w ∈ gv_tbl) ∧ 0 < N ∧ Cond.fieldLink "AlgebraTree$Nodes" 11 (T 0).1 (T 0).2.1 (T 0).2.2.1 ∈ gv_tbl := ⟨TX3, 2, rfl, in_3, by decide, wd_130⟩
theorem wd_131 : (Jvm.Cond.fieldLink "AlgebraTree$Nodes" (17 : Nat) "AlgebraTree$Nodes" "size" "I") ∈ gv_tbl := gv_in (List.mem_of_getElem? (i := 131) (by decide +kernel)) rfl
theorem fl_3_17 : gv_F "AlgebraTree$Nodes" 17 3 1 := ⟨RX3, TX3, 2, rfl, in_3, by decide, Or.inl wd_131⟩
theorem wd_170 : (Jvm.Cond.fieldLink "AlgebraTree$Rows" (9 : Nat) "AlgebraTree$Rows" "cells" "[I") ∈ gv_tbl := gv_in (List.mem_of_getElem? (i := 170) (by decide +kernel)) rfl
theorem fl_4_9 : gv_F "AlgebraTree$Rows" 9 4 0 := ⟨RX4, TX4, 4, rfl, in_4, by decide, Or.inl wd_170⟩
theorem ff_4_9 : ∃ (T : u_T) (N : Nat), classes[4]? = some ("AlgebraTree$Rows", T, N) ∧ (∀ w ∈ u_ws "AlgebraTree$Rows" T N, w ∈ gv_tbl) ∧ 0 < N ∧ Cond.fieldLink "AlgebraTree$Rows" 9 (T 0).1 (T 0).2.1 (T 0).2.2.1 ∈ gv_tbl := ⟨TX4, 4, rfl, in_4, by decide, wd_170⟩
theorem wd_177 : (Jvm.Cond.fieldLink "AlgebraTree$Rows" (15 : Nat) "AlgebraTree$Rows" "madeAt" "I") ∈ gv_tbl := gv_in (List.mem_of_getElem? (i := 177) (by decide +kernel)) rfl
theorem fl_4_15 : gv_F "AlgebraTree$Rows" 15 4 3 := ⟨RX4, TX4, 4, rfl, in_4, by decide, Or.inl wd_177⟩
theorem wd_171 : (Jvm.Cond.fieldLink "AlgebraTree$Rows" (19 : Nat) "AlgebraTree$Rows" "size" "I") ∈ gv_tbl := gv_in (List.mem_of_getElem? (i := 171) (by decide +kernel)) rfl
theorem fl_4_19 : gv_F "AlgebraTree$Rows" 19 4 1 := ⟨RX4, TX4, 4, rfl, in_4, by decide, Or.inl wd_171⟩
theorem wd_174 : (Jvm.Cond.fieldLink "AlgebraTree$Rows" (22 : Nat) "AlgebraTree$Rows" "tooLong" "Z") ∈ gv_tbl := gv_in (List.mem_of_getElem? (i := 174) (by decide +kernel)) rfl
theorem fl_4_22 : gv_F "AlgebraTree$Rows" 22 4 2 := ⟨RX4, TX4, 4, rfl, in_4, by decide, Or.inl wd_174⟩
theorem wd_75 : (Jvm.Cond.fieldLink "AlgebraTree$Triples" (9 : Nat) "AlgebraTree$Triples" "graph" "[I") ∈ gv_tbl := gv_in (List.mem_of_getElem? (i := 75) (by decide +kernel)) rfl
theorem fl_5_9 : gv_F "AlgebraTree$Triples" 9 5 0 := ⟨RX5, TX5, 5, rfl, in_5, by decide, Or.inl wd_75⟩
theorem ff_5_9 : ∃ (T : u_T) (N : Nat), classes[5]? = some ("AlgebraTree$Triples", T, N) ∧ (∀ w ∈ u_ws "AlgebraTree$Triples" T N, w ∈ gv_tbl) ∧ 0 < N ∧ Cond.fieldLink "AlgebraTree$Triples" 9 (T 0).1 (T 0).2.1 (T 0).2.2.1 ∈ gv_tbl := ⟨TX5, 5, rfl, in_5, by decide, wd_75⟩
theorem wd_77 : (Jvm.Cond.fieldLink "AlgebraTree$Triples" (15 : Nat) "AlgebraTree$Triples" "s" "[I") ∈ gv_tbl := gv_in (List.mem_of_getElem? (i := 77) (by decide +kernel)) rfl
theorem fl_5_15 : gv_F "AlgebraTree$Triples" 15 5 1 := ⟨RX5, TX5, 5, rfl, in_5, by decide, Or.inl wd_77⟩
theorem ff_5_15 : ∃ (T : u_T) (N : Nat), classes[5]? = some ("AlgebraTree$Triples", T, N) ∧ (∀ w ∈ u_ws "AlgebraTree$Triples" T N, w ∈ gv_tbl) ∧ 1 < N ∧ Cond.fieldLink "AlgebraTree$Triples" 15 (T 1).1 (T 1).2.1 (T 1).2.2.1 ∈ gv_tbl := ⟨TX5, 5, rfl, in_5, by decide, wd_77⟩
theorem wd_79 : (Jvm.Cond.fieldLink "AlgebraTree$Triples" (18 : Nat) "AlgebraTree$Triples" "p" "[I") ∈ gv_tbl := gv_in (List.mem_of_getElem? (i := 79) (by decide +kernel)) rfl
theorem fl_5_18 : gv_F "AlgebraTree$Triples" 18 5 2 := ⟨RX5, TX5, 5, rfl, in_5, by decide, Or.inl wd_79⟩
theorem ff_5_18 : ∃ (T : u_T) (N : Nat), classes[5]? = some ("AlgebraTree$Triples", T, N) ∧ (∀ w ∈ u_ws "AlgebraTree$Triples" T N, w ∈ gv_tbl) ∧ 2 < N ∧ Cond.fieldLink "AlgebraTree$Triples" 18 (T 2).1 (T 2).2.1 (T 2).2.2.1 ∈ gv_tbl := ⟨TX5, 5, rfl, in_5, by decide, wd_79⟩
theorem wd_81 : (Jvm.Cond.fieldLink "AlgebraTree$Triples" (21 : Nat) "AlgebraTree$Triples" "o" "[I") ∈ gv_tbl := gv_in (List.mem_of_getElem? (i := 81) (by decide +kernel)) rfl
theorem fl_5_21 : gv_F "AlgebraTree$Triples" 21 5 3 := ⟨RX5, TX5, 5, rfl, in_5, by decide, Or.inl wd_81⟩
theorem ff_5_21 : ∃ (T : u_T) (N : Nat), classes[5]? = some ("AlgebraTree$Triples", T, N) ∧ (∀ w ∈ u_ws "AlgebraTree$Triples" T N, w ∈ gv_tbl) ∧ 3 < N ∧ Cond.fieldLink "AlgebraTree$Triples" 21 (T 3).1 (T 3).2.1 (T 3).2.2.1 ∈ gv_tbl := ⟨TX5, 5, rfl, in_5, by decide, wd_81⟩
theorem wd_83 : (Jvm.Cond.fieldLink "AlgebraTree$Triples" (24 : Nat) "AlgebraTree$Triples" "size" "I") ∈ gv_tbl := gv_in (List.mem_of_getElem? (i := 83) (by decide +kernel)) rfl
theorem fl_5_24 : gv_F "AlgebraTree$Triples" 24 5 4 := ⟨RX5, TX5, 5, rfl, in_5, by decide, Or.inl wd_83⟩
theorem wd_629 : (Jvm.Cond.fieldLink "AlgebraTreeModel" (7 : Nat) "AlgebraTreeModel" "told" "[I") ∈ gv_tbl := gv_in (List.mem_of_getElem? (i := 629) (by decide +kernel)) rfl
theorem fl_7_7 : gv_F "AlgebraTreeModel" 7 7 1 := ⟨RX7, TX7, 15, rfl, in_7, by decide, Or.inl wd_629⟩
theorem ff_7_7 : ∃ (T : u_T) (N : Nat), classes[7]? = some ("AlgebraTreeModel", T, N) ∧ (∀ w ∈ u_ws "AlgebraTreeModel" T N, w ∈ gv_tbl) ∧ 1 < N ∧ Cond.fieldLink "AlgebraTreeModel" 7 (T 1).1 (T 1).2.1 (T 1).2.2.1 ∈ gv_tbl := ⟨TX7, 15, rfl, in_7, by decide, wd_629⟩
theorem wd_631 : (Jvm.Cond.fieldLink "AlgebraTreeModel" (13 : Nat) "AlgebraTreeModel" "asks" "[I") ∈ gv_tbl := gv_in (List.mem_of_getElem? (i := 631) (by decide +kernel)) rfl
theorem fl_7_13 : gv_F "AlgebraTreeModel" 13 7 3 := ⟨RX7, TX7, 15, rfl, in_7, by decide, Or.inl wd_631⟩
theorem ff_7_13 : ∃ (T : u_T) (N : Nat), classes[7]? = some ("AlgebraTreeModel", T, N) ∧ (∀ w ∈ u_ws "AlgebraTreeModel" T N, w ∈ gv_tbl) ∧ 3 < N ∧ Cond.fieldLink "AlgebraTreeModel" 13 (T 3).1 (T 3).2.1 (T 3).2.2.1 ∈ gv_tbl := ⟨TX7, 15, rfl, in_7, by decide, wd_631⟩
theorem wd_632 : (Jvm.Cond.fieldLink "AlgebraTreeModel" (16 : Nat) "AlgebraTreeModel" "values" "[I") ∈ gv_tbl := gv_in (List.mem_of_getElem? (i := 632) (by decide +kernel)) rfl
theorem fl_7_16 : gv_F "AlgebraTreeModel" 16 7 4 := ⟨RX7, TX7, 15, rfl, in_7, by decide, Or.inl wd_632⟩
theorem ff_7_16 : ∃ (T : u_T) (N : Nat), classes[7]? = some ("AlgebraTreeModel", T, N) ∧ (∀ w ∈ u_ws "AlgebraTreeModel" T N, w ∈ gv_tbl) ∧ 4 < N ∧ Cond.fieldLink "AlgebraTreeModel" 16 (T 4).1 (T 4).2.1 (T 4).2.2.1 ∈ gv_tbl := ⟨TX7, 15, rfl, in_7, by decide, wd_632⟩
theorem wd_634 : (Jvm.Cond.fieldLink "AlgebraTreeModel" (19 : Nat) "AlgebraTreeModel" "made" "[I") ∈ gv_tbl := gv_in (List.mem_of_getElem? (i := 634) (by decide +kernel)) rfl
theorem fl_7_19 : gv_F "AlgebraTreeModel" 19 7 6 := ⟨RX7, TX7, 15, rfl, in_7, by decide, Or.inl wd_634⟩
theorem ff_7_19 : ∃ (T : u_T) (N : Nat), classes[7]? = some ("AlgebraTreeModel", T, N) ∧ (∀ w ∈ u_ws "AlgebraTreeModel" T N, w ∈ gv_tbl) ∧ 6 < N ∧ Cond.fieldLink "AlgebraTreeModel" 19 (T 6).1 (T 6).2.1 (T 6).2.2.1 ∈ gv_tbl := ⟨TX7, 15, rfl, in_7, by decide, wd_634⟩
theorem wd_636 : (Jvm.Cond.fieldLink "AlgebraTreeModel" (23 : Nat) "AlgebraTreeModel" "rows" "[I") ∈ gv_tbl := gv_in (List.mem_of_getElem? (i := 636) (by decide +kernel)) rfl
theorem fl_7_23 : gv_F "AlgebraTreeModel" 23 7 8 := ⟨RX7, TX7, 15, rfl, in_7, by decide, Or.inl wd_636⟩
theorem ff_7_23 : ∃ (T : u_T) (N : Nat), classes[7]? = some ("AlgebraTreeModel", T, N) ∧ (∀ w ∈ u_ws "AlgebraTreeModel" T N, w ∈ gv_tbl) ∧ 8 < N ∧ Cond.fieldLink "AlgebraTreeModel" 23 (T 8).1 (T 8).2.1 (T 8).2.2.1 ∈ gv_tbl := ⟨TX7, 15, rfl, in_7, by decide, wd_636⟩
theorem wd_637 : (Jvm.Cond.fieldLink "AlgebraTreeModel" (26 : Nat) "AlgebraTreeModel" "counts" "[I") ∈ gv_tbl := gv_in (List.mem_of_getElem? (i := 637) (by decide +kernel)) rfl
theorem fl_7_26 : gv_F "AlgebraTreeModel" 26 7 9 := ⟨RX7, TX7, 15, rfl, in_7, by decide, Or.inl wd_637⟩
theorem ff_7_26 : ∃ (T : u_T) (N : Nat), classes[7]? = some ("AlgebraTreeModel", T, N) ∧ (∀ w ∈ u_ws "AlgebraTreeModel" T N, w ∈ gv_tbl) ∧ 9 < N ∧ Cond.fieldLink "AlgebraTreeModel" 26 (T 9).1 (T 9).2.1 (T 9).2.2.1 ∈ gv_tbl := ⟨TX7, 15, rfl, in_7, by decide, wd_637⟩
theorem wd_638 : (Jvm.Cond.fieldLink "AlgebraTreeModel" (29 : Nat) "AlgebraTreeModel" "now" "[I") ∈ gv_tbl := gv_in (List.mem_of_getElem? (i := 638) (by decide +kernel)) rfl
theorem fl_7_29 : gv_F "AlgebraTreeModel" 29 7 10 := ⟨RX7, TX7, 15, rfl, in_7, by decide, Or.inl wd_638⟩
theorem ff_7_29 : ∃ (T : u_T) (N : Nat), classes[7]? = some ("AlgebraTreeModel", T, N) ∧ (∀ w ∈ u_ws "AlgebraTreeModel" T N, w ∈ gv_tbl) ∧ 10 < N ∧ Cond.fieldLink "AlgebraTreeModel" 29 (T 10).1 (T 10).2.1 (T 10).2.2.1 ∈ gv_tbl := ⟨TX7, 15, rfl, in_7, by decide, wd_638⟩
theorem wd_640 : (Jvm.Cond.fieldLink "AlgebraTreeModel" (32 : Nat) "AlgebraTreeModel" "shows" "[I") ∈ gv_tbl := gv_in (List.mem_of_getElem? (i := 640) (by decide +kernel)) rfl
theorem fl_7_32 : gv_F "AlgebraTreeModel" 32 7 12 := ⟨RX7, TX7, 15, rfl, in_7, by decide, Or.inl wd_640⟩
theorem ff_7_32 : ∃ (T : u_T) (N : Nat), classes[7]? = some ("AlgebraTreeModel", T, N) ∧ (∀ w ∈ u_ws "AlgebraTreeModel" T N, w ∈ gv_tbl) ∧ 12 < N ∧ Cond.fieldLink "AlgebraTreeModel" 32 (T 12).1 (T 12).2.1 (T 12).2.2.1 ∈ gv_tbl := ⟨TX7, 15, rfl, in_7, by decide, wd_640⟩
theorem wd_641 : (Jvm.Cond.fieldLink "AlgebraTreeModel" (35 : Nat) "AlgebraTreeModel" "keys" "[I") ∈ gv_tbl := gv_in (List.mem_of_getElem? (i := 641) (by decide +kernel)) rfl
theorem fl_7_35 : gv_F "AlgebraTreeModel" 35 7 13 := ⟨RX7, TX7, 15, rfl, in_7, by decide, Or.inl wd_641⟩
theorem ff_7_35 : ∃ (T : u_T) (N : Nat), classes[7]? = some ("AlgebraTreeModel", T, N) ∧ (∀ w ∈ u_ws "AlgebraTreeModel" T N, w ∈ gv_tbl) ∧ 13 < N ∧ Cond.fieldLink "AlgebraTreeModel" 35 (T 13).1 (T 13).2.1 (T 13).2.2.1 ∈ gv_tbl := ⟨TX7, 15, rfl, in_7, by decide, wd_641⟩
theorem wd_642 : (Jvm.Cond.fieldLink "AlgebraTreeModel" (38 : Nat) "AlgebraTreeModel" "places" "[I") ∈ gv_tbl := gv_in (List.mem_of_getElem? (i := 642) (by decide +kernel)) rfl
theorem fl_7_38 : gv_F "AlgebraTreeModel" 38 7 14 := ⟨RX7, TX7, 15, rfl, in_7, by decide, Or.inl wd_642⟩
theorem ff_7_38 : ∃ (T : u_T) (N : Nat), classes[7]? = some ("AlgebraTreeModel", T, N) ∧ (∀ w ∈ u_ws "AlgebraTreeModel" T N, w ∈ gv_tbl) ∧ 14 < N ∧ Cond.fieldLink "AlgebraTreeModel" 38 (T 14).1 (T 14).2.1 (T 14).2.2.1 ∈ gv_tbl := ⟨TX7, 15, rfl, in_7, by decide, wd_642⟩
theorem wd_635 : (Jvm.Cond.fieldLink "AlgebraTreeModel" (41 : Nat) "AlgebraTreeModel" "known" "Z") ∈ gv_tbl := gv_in (List.mem_of_getElem? (i := 635) (by decide +kernel)) rfl
theorem fl_7_41 : gv_F "AlgebraTreeModel" 41 7 7 := ⟨RX7, TX7, 15, rfl, in_7, by decide, Or.inl wd_635⟩
theorem wd_628 : (Jvm.Cond.fieldLink "AlgebraTreeModel" (49 : Nat) "AlgebraTreeModel" "triples" "I") ∈ gv_tbl := gv_in (List.mem_of_getElem? (i := 628) (by decide +kernel)) rfl
theorem fl_7_49 : gv_F "AlgebraTreeModel" 49 7 0 := ⟨RX7, TX7, 15, rfl, in_7, by decide, Or.inl wd_628⟩
theorem wd_630 : (Jvm.Cond.fieldLink "AlgebraTreeModel" (53 : Nat) "AlgebraTreeModel" "expressions" "I") ∈ gv_tbl := gv_in (List.mem_of_getElem? (i := 630) (by decide +kernel)) rfl
theorem fl_7_53 : gv_F "AlgebraTreeModel" 53 7 2 := ⟨RX7, TX7, 15, rfl, in_7, by decide, Or.inl wd_630⟩
theorem wd_633 : (Jvm.Cond.fieldLink "AlgebraTreeModel" (85 : Nat) "AlgebraTreeModel" "nodes" "I") ∈ gv_tbl := gv_in (List.mem_of_getElem? (i := 633) (by decide +kernel)) rfl
theorem fl_7_85 : gv_F "AlgebraTreeModel" 85 7 5 := ⟨RX7, TX7, 15, rfl, in_7, by decide, Or.inl wd_633⟩
theorem wd_639 : (Jvm.Cond.fieldLink "AlgebraTreeModel" (178 : Nat) "AlgebraTreeModel" "shown" "I") ∈ gv_tbl := gv_in (List.mem_of_getElem? (i := 639) (by decide +kernel)) rfl
theorem fl_7_178 : gv_F "AlgebraTreeModel" 178 7 11 := ⟨RX7, TX7, 15, rfl, in_7, by decide, Or.inl wd_639⟩
theorem wd_65 : (Jvm.Cond.methodLink "AlgebraTree" (11 : Nat) ({ cls := "AlgebraTree$Maker", name := "<init>", desc := "()V" } : Jvm.MethodName)) ∈ gv_tbl := gv_in (List.mem_of_getElem? (i := 65) (by decide +kernel)) rfl
set_option maxRecDepth 100000 in
theorem wd_67 : (Jvm.Cond.code ({ cls := "AlgebraTree$Maker", name := "<init>", desc := "()V" } : Jvm.MethodName) prog_3_method_1_code (1 : Nat) (Option.none : Option Jvm.ClassFile.FieldType)) ∈ gv_tbl := gv_in (List.mem_of_getElem? (i := 67) rfl) rfl
theorem wd_46 : (Jvm.Cond.initialized "AlgebraTree$Maker") ∈ gv_tbl := gv_in (List.mem_of_getElem? (i := 46) (by decide +kernel)) rfl
theorem gy_X1_init : gv_y yX1_init 0 := ⟨by decide +kernel, by decide +kernel, by decide +kernel⟩
theorem wd_66 : (Jvm.Cond.instanceMethod ({ cls := "AlgebraTree$Maker", name := "<init>", desc := "()V" } : Jvm.MethodName)) ∈ gv_tbl := gv_in (List.mem_of_getElem? (i := 66) (by decide +kernel)) rfl
theorem mi_6_11 : gv_MI "AlgebraTree" 11 yX1_init cX1_init 1 0 := ⟨wd_67, rfl, wd_66, wd_46, gy_X1_init, Or.inl wd_65⟩
theorem wd_166 : (Jvm.Cond.methodLink "AlgebraTree" (33 : Nat) ({ cls := "AlgebraTree$Rows", name := "<init>", desc := "()V" } : Jvm.MethodName)) ∈ gv_tbl := gv_in (List.mem_of_getElem? (i := 166) (by decide +kernel)) rfl
set_option maxRecDepth 100000 in
theorem wd_168 : (Jvm.Cond.code ({ cls := "AlgebraTree$Rows", name := "<init>", desc := "()V" } : Jvm.MethodName) prog_6_method_1_code (1 : Nat) (Option.none : Option Jvm.ClassFile.FieldType)) ∈ gv_tbl := gv_in (List.mem_of_getElem? (i := 168) rfl) rfl
theorem wd_50 : (Jvm.Cond.initialized "AlgebraTree$Rows") ∈ gv_tbl := gv_in (List.mem_of_getElem? (i := 50) (by decide +kernel)) rfl
theorem gy_X4_init : gv_y yX4_init 0 := ⟨by decide +kernel, by decide +kernel, by decide +kernel⟩
theorem wd_167 : (Jvm.Cond.instanceMethod ({ cls := "AlgebraTree$Rows", name := "<init>", desc := "()V" } : Jvm.MethodName)) ∈ gv_tbl := gv_in (List.mem_of_getElem? (i := 167) (by decide +kernel)) rfl
theorem mi_6_33 : gv_MI "AlgebraTree" 33 yX4_init cX4_init 1 0 := ⟨wd_168, rfl, wd_167, wd_50, gy_X4_init, Or.inl wd_166⟩
theorem wd_208 : (Jvm.Cond.methodLink "AlgebraTree" (38 : Nat) ({ cls := "AlgebraTree", name := "isBelow", desc := "(II)Z" } : Jvm.MethodName)) ∈ gv_tbl := gv_in (List.mem_of_getElem? (i := 208) (by decide +kernel)) rfl
set_option maxRecDepth 100000 in
theorem wd_210 : (Jvm.Cond.code ({ cls := "AlgebraTree", name := "isBelow", desc := "(II)Z" } : Jvm.MethodName) prog_1_method_22_code (2 : Nat) (Option.some Jvm.ClassFile.FieldType.boolean)) ∈ gv_tbl := gv_in (List.mem_of_getElem? (i := 210) rfl) rfl
theorem wd_45 : (Jvm.Cond.initialized "AlgebraTree") ∈ gv_tbl := gv_in (List.mem_of_getElem? (i := 45) (by decide +kernel)) rfl
theorem gy_X6_isBelow : gv_y yX6_isBelow 2 := ⟨by decide +kernel, by decide +kernel, by decide +kernel⟩
theorem wd_209 : (Jvm.Cond.static ({ cls := "AlgebraTree", name := "isBelow", desc := "(II)Z" } : Jvm.MethodName)) ∈ gv_tbl := gv_in (List.mem_of_getElem? (i := 209) (by decide +kernel)) rfl
theorem ms_6_38 : gv_MS "AlgebraTree" 38 yX6_isBelow cX6_isBelow 2 (some .boolean) 2 := ⟨wd_210, wd_209, wd_45, gy_X6_isBelow, Or.inl wd_208⟩
theorem wd_211 : (Jvm.Cond.methodLink "AlgebraTree" (42 : Nat) ({ cls := "AlgebraTree", name := "isTerm", desc := "(I)Z" } : Jvm.MethodName)) ∈ gv_tbl := gv_in (List.mem_of_getElem? (i := 211) (by decide +kernel)) rfl
set_option maxRecDepth 100000 in
theorem wd_213 : (Jvm.Cond.code ({ cls := "AlgebraTree", name := "isTerm", desc := "(I)Z" } : Jvm.MethodName) prog_1_method_24_code (1 : Nat) (Option.some Jvm.ClassFile.FieldType.boolean)) ∈ gv_tbl := gv_in (List.mem_of_getElem? (i := 213) rfl) rfl
theorem gy_X6_isTerm : gv_y yX6_isTerm 1 := ⟨by decide +kernel, by decide +kernel, by decide +kernel⟩
theorem wd_212 : (Jvm.Cond.static ({ cls := "AlgebraTree", name := "isTerm", desc := "(I)Z" } : Jvm.MethodName)) ∈ gv_tbl := gv_in (List.mem_of_getElem? (i := 212) (by decide +kernel)) rfl
theorem ms_6_42 : gv_MS "AlgebraTree" 42 yX6_isTerm cX6_isTerm 1 (some .boolean) 1 := ⟨wd_213, wd_212, wd_45, gy_X6_isTerm, Or.inl wd_211⟩
theorem wd_214 : (Jvm.Cond.methodLink "AlgebraTree" (46 : Nat) ({ cls := "AlgebraTree$Triples", name := "add", desc := "(IIII)I" } : Jvm.MethodName)) ∈ gv_tbl := gv_in (List.mem_of_getElem? (i := 214) (by decide +kernel)) rfl
set_option maxRecDepth 100000 in
theorem wd_217 : (Jvm.Cond.code ({ cls := "AlgebraTree$Triples", name := "add", desc := "(IIII)I" } : Jvm.MethodName) prog_7_method_2_code (5 : Nat) (Option.some Jvm.ClassFile.FieldType.int)) ∈ gv_tbl := gv_in (List.mem_of_getElem? (i := 217) rfl) rfl
theorem wd_47 : (Jvm.Cond.initialized "AlgebraTree$Triples") ∈ gv_tbl := gv_in (List.mem_of_getElem? (i := 47) (by decide +kernel)) rfl
theorem gy_X5_add : gv_y yX5_add 4 := ⟨by decide +kernel, by decide +kernel, by decide +kernel⟩
theorem wd_215 : (Jvm.Cond.instanceMethod ({ cls := "AlgebraTree$Triples", name := "add", desc := "(IIII)I" } : Jvm.MethodName)) ∈ gv_tbl := gv_in (List.mem_of_getElem? (i := 215) (by decide +kernel)) rfl
theorem wd_216 : (Jvm.Cond.selects "AlgebraTree$Triples" ({ cls := "AlgebraTree$Triples", name := "add", desc := "(IIII)I" } : Jvm.MethodName) ({ cls := "AlgebraTree$Triples", name := "add", desc := "(IIII)I" } : Jvm.MethodName)) ∈ gv_tbl := gv_in (List.mem_of_getElem? (i := 216) (by decide +kernel)) rfl
theorem mv_6_46 : gv_MV "AlgebraTree" 46 yX5_add cX5_add 5 (some .int) 4 5 := ⟨wd_217, wd_215, wd_216, wd_47, gy_X5_add, Or.inl wd_214, TX5, 5, rfl⟩
theorem wd_227 : (Jvm.Cond.methodLink "AlgebraTree" (55 : Nat) ({ cls := "AlgebraTree", name := "isWithin", desc := "(JI)Z" } : Jvm.MethodName)) ∈ gv_tbl := gv_in (List.mem_of_getElem? (i := 227) (by decide +kernel)) rfl
set_option maxRecDepth 100000 in
theorem wd_229 : (Jvm.Cond.code ({ cls := "AlgebraTree", name := "isWithin", desc := "(JI)Z" } : Jvm.MethodName) prog_1_method_23_code (3 : Nat) (Option.some Jvm.ClassFile.FieldType.boolean)) ∈ gv_tbl := gv_in (List.mem_of_getElem? (i := 229) rfl) rfl
theorem gy_X6_isWithin : gv_y yX6_isWithin 2 := ⟨by decide +kernel, by decide +kernel, by decide +kernel⟩
theorem wd_228 : (Jvm.Cond.static ({ cls := "AlgebraTree", name := "isWithin", desc := "(JI)Z" } : Jvm.MethodName)) ∈ gv_tbl := gv_in (List.mem_of_getElem? (i := 228) (by decide +kernel)) rfl
theorem ms_6_55 : gv_MS "AlgebraTree" 55 yX6_isWithin cX6_isWithin 3 (some .boolean) 2 := ⟨wd_229, wd_228, wd_45, gy_X6_isWithin, Or.inl wd_227⟩
theorem wd_230 : (Jvm.Cond.methodLink "AlgebraTree" (59 : Nat) ({ cls := "AlgebraTree", name := "isVariable", desc := "(I)Z" } : Jvm.MethodName)) ∈ gv_tbl := gv_in (List.mem_of_getElem? (i := 230) (by decide +kernel)) rfl
set_option maxRecDepth 100000 in
theorem wd_232 : (Jvm.Cond.code ({ cls := "AlgebraTree", name := "isVariable", desc := "(I)Z" } : Jvm.MethodName) prog_1_method_25_code (1 : Nat) (Option.some Jvm.ClassFile.FieldType.boolean)) ∈ gv_tbl := gv_in (List.mem_of_getElem? (i := 232) rfl) rfl
theorem gy_X6_isVariable : gv_y yX6_isVariable 1 := ⟨by decide +kernel, by decide +kernel, by decide +kernel⟩
theorem wd_231 : (Jvm.Cond.static ({ cls := "AlgebraTree", name := "isVariable", desc := "(I)Z" } : Jvm.MethodName)) ∈ gv_tbl := gv_in (List.mem_of_getElem? (i := 231) (by decide +kernel)) rfl
theorem ms_6_59 : gv_MS "AlgebraTree" 59 yX6_isVariable cX6_isVariable 1 (some .boolean) 1 := ⟨wd_232, wd_231, wd_45, gy_X6_isVariable, Or.inl wd_230⟩
theorem wd_233 : (Jvm.Cond.methodLink "AlgebraTree" (62 : Nat) ({ cls := "AlgebraTree$Expressions", name := "addLeaf", desc := "(II)I" } : Jvm.MethodName)) ∈ gv_tbl := gv_in (List.mem_of_getElem? (i := 233) (by decide +kernel)) rfl
set_option maxRecDepth 100000 in
theorem wd_236 : (Jvm.Cond.code ({ cls := "AlgebraTree$Expressions", name := "addLeaf", desc := "(II)I" } : Jvm.MethodName) prog_2_method_3_code (3 : Nat) (Option.some Jvm.ClassFile.FieldType.int)) ∈ gv_tbl := gv_in (List.mem_of_getElem? (i := 236) rfl) rfl
theorem wd_48 : (Jvm.Cond.initialized "AlgebraTree$Expressions") ∈ gv_tbl := gv_in (List.mem_of_getElem? (i := 48) (by decide +kernel)) rfl
theorem gy_X0_addLeaf : gv_y yX0_addLeaf 2 := ⟨by decide +kernel, by decide +kernel, by decide +kernel⟩
theorem wd_234 : (Jvm.Cond.instanceMethod ({ cls := "AlgebraTree$Expressions", name := "addLeaf", desc := "(II)I" } : Jvm.MethodName)) ∈ gv_tbl := gv_in (List.mem_of_getElem? (i := 234) (by decide +kernel)) rfl
theorem wd_235 : (Jvm.Cond.selects "AlgebraTree$Expressions" ({ cls := "AlgebraTree$Expressions", name := "addLeaf", desc := "(II)I" } : Jvm.MethodName) ({ cls := "AlgebraTree$Expressions", name := "addLeaf", desc := "(II)I" } : Jvm.MethodName)) ∈ gv_tbl := gv_in (List.mem_of_getElem? (i := 235) (by decide +kernel)) rfl
theorem mv_6_62 : gv_MV "AlgebraTree" 62 yX0_addLeaf cX0_addLeaf 3 (some .int) 2 0 := ⟨wd_236, wd_234, wd_235, wd_48, gy_X0_addLeaf, Or.inl wd_233, TX0, 6, rfl⟩
theorem wd_245 : (Jvm.Cond.methodLink "AlgebraTree" (66 : Nat) ({ cls := "AlgebraTree$Expressions", name := "has", desc := "(I)Z" } : Jvm.MethodName)) ∈ gv_tbl := gv_in (List.mem_of_getElem? (i := 245) (by decide +kernel)) rfl
set_option maxRecDepth 100000 in
theorem wd_248 : (Jvm.Cond.code ({ cls := "AlgebraTree$Expressions", name := "has", desc := "(I)Z" } : Jvm.MethodName) prog_2_method_2_code (2 : Nat) (Option.some Jvm.ClassFile.FieldType.boolean)) ∈ gv_tbl := gv_in (List.mem_of_getElem? (i := 248) rfl) rfl
theorem gy_X0_has : gv_y yX0_has 1 := ⟨by decide +kernel, by decide +kernel, by decide +kernel⟩
theorem wd_246 : (Jvm.Cond.instanceMethod ({ cls := "AlgebraTree$Expressions", name := "has", desc := "(I)Z" } : Jvm.MethodName)) ∈ gv_tbl := gv_in (List.mem_of_getElem? (i := 246) (by decide +kernel)) rfl
theorem wd_247 : (Jvm.Cond.selects "AlgebraTree$Expressions" ({ cls := "AlgebraTree$Expressions", name := "has", desc := "(I)Z" } : Jvm.MethodName) ({ cls := "AlgebraTree$Expressions", name := "has", desc := "(I)Z" } : Jvm.MethodName)) ∈ gv_tbl := gv_in (List.mem_of_getElem? (i := 247) (by decide +kernel)) rfl
theorem mv_6_66 : gv_MV "AlgebraTree" 66 yX0_has cX0_has 2 (some .boolean) 1 0 := ⟨wd_248, wd_246, wd_247, wd_48, gy_X0_has, Or.inl wd_245, TX0, 6, rfl⟩
theorem wd_250 : (Jvm.Cond.methodLink "AlgebraTree" (69 : Nat) ({ cls := "AlgebraTree$Expressions", name := "addOperation", desc := "(III)I" } : Jvm.MethodName)) ∈ gv_tbl := gv_in (List.mem_of_getElem? (i := 250) (by decide +kernel)) rfl
set_option maxRecDepth 100000 in
theorem wd_253 : (Jvm.Cond.code ({ cls := "AlgebraTree$Expressions", name := "addOperation", desc := "(III)I" } : Jvm.MethodName) prog_2_method_4_code (4 : Nat) (Option.some Jvm.ClassFile.FieldType.int)) ∈ gv_tbl := gv_in (List.mem_of_getElem? (i := 253) rfl) rfl
theorem gy_X0_addOperation : gv_y yX0_addOperation 3 := ⟨by decide +kernel, by decide +kernel, by decide +kernel⟩
theorem wd_251 : (Jvm.Cond.instanceMethod ({ cls := "AlgebraTree$Expressions", name := "addOperation", desc := "(III)I" } : Jvm.MethodName)) ∈ gv_tbl := gv_in (List.mem_of_getElem? (i := 251) (by decide +kernel)) rfl
theorem wd_252 : (Jvm.Cond.selects "AlgebraTree$Expressions" ({ cls := "AlgebraTree$Expressions", name := "addOperation", desc := "(III)I" } : Jvm.MethodName) ({ cls := "AlgebraTree$Expressions", name := "addOperation", desc := "(III)I" } : Jvm.MethodName)) ∈ gv_tbl := gv_in (List.mem_of_getElem? (i := 252) (by decide +kernel)) rfl
theorem mv_6_69 : gv_MV "AlgebraTree" 69 yX0_addOperation cX0_addOperation 4 (some .int) 3 0 := ⟨wd_253, wd_251, wd_252, wd_48, gy_X0_addOperation, Or.inl wd_250, TX0, 6, rfl⟩
theorem wd_258 : (Jvm.Cond.methodLink "AlgebraTree" (73 : Nat) ({ cls := "AlgebraTree$Nodes", name := "isFull", desc := "()Z" } : Jvm.MethodName)) ∈ gv_tbl := gv_in (List.mem_of_getElem? (i := 258) (by decide +kernel)) rfl
set_option maxRecDepth 100000 in
theorem wd_261 : (Jvm.Cond.code ({ cls := "AlgebraTree$Nodes", name := "isFull", desc := "()Z" } : Jvm.MethodName) prog_5_method_2_code (1 : Nat) (Option.some Jvm.ClassFile.FieldType.boolean)) ∈ gv_tbl := gv_in (List.mem_of_getElem? (i := 261) rfl) rfl
theorem wd_49 : (Jvm.Cond.initialized "AlgebraTree$Nodes") ∈ gv_tbl := gv_in (List.mem_of_getElem? (i := 49) (by decide +kernel)) rfl
theorem gy_X3_isFull : gv_y yX3_isFull 0 := ⟨by decide +kernel, by decide +kernel, by decide +kernel⟩
theorem wd_259 : (Jvm.Cond.instanceMethod ({ cls := "AlgebraTree$Nodes", name := "isFull", desc := "()Z" } : Jvm.MethodName)) ∈ gv_tbl := gv_in (List.mem_of_getElem? (i := 259) (by decide +kernel)) rfl
theorem wd_260 : (Jvm.Cond.selects "AlgebraTree$Nodes" ({ cls := "AlgebraTree$Nodes", name := "isFull", desc := "()Z" } : Jvm.MethodName) ({ cls := "AlgebraTree$Nodes", name := "isFull", desc := "()Z" } : Jvm.MethodName)) ∈ gv_tbl := gv_in (List.mem_of_getElem? (i := 260) (by decide +kernel)) rfl
theorem mv_6_73 : gv_MV "AlgebraTree" 73 yX3_isFull cX3_isFull 1 (some .boolean) 0 3 := ⟨wd_261, wd_259, wd_260, wd_49, gy_X3_isFull, Or.inl wd_258, TX3, 2, rfl⟩
theorem wd_262 : (Jvm.Cond.methodLink "AlgebraTree" (79 : Nat) ({ cls := "AlgebraTree", name := "isPlace", desc := "(I)Z" } : Jvm.MethodName)) ∈ gv_tbl := gv_in (List.mem_of_getElem? (i := 262) (by decide +kernel)) rfl
set_option maxRecDepth 100000 in
theorem wd_264 : (Jvm.Cond.code ({ cls := "AlgebraTree", name := "isPlace", desc := "(I)Z" } : Jvm.MethodName) prog_1_method_26_code (1 : Nat) (Option.some Jvm.ClassFile.FieldType.boolean)) ∈ gv_tbl := gv_in (List.mem_of_getElem? (i := 264) rfl) rfl
theorem gy_X6_isPlace : gv_y yX6_isPlace 1 := ⟨by decide +kernel, by decide +kernel, by decide +kernel⟩
theorem wd_263 : (Jvm.Cond.static ({ cls := "AlgebraTree", name := "isPlace", desc := "(I)Z" } : Jvm.MethodName)) ∈ gv_tbl := gv_in (List.mem_of_getElem? (i := 263) (by decide +kernel)) rfl
theorem ms_6_79 : gv_MS "AlgebraTree" 79 yX6_isPlace cX6_isPlace 1 (some .boolean) 1 := ⟨wd_264, wd_263, wd_45, gy_X6_isPlace, Or.inl wd_262⟩
theorem wd_267 : (Jvm.Cond.methodLink "AlgebraTree" (84 : Nat) ({ cls := "AlgebraTree$Node", name := "<init>", desc := "(III)V" } : Jvm.MethodName)) ∈ gv_tbl := gv_in (List.mem_of_getElem? (i := 267) (by decide +kernel)) rfl
set_option maxRecDepth 100000 in
theorem wd_269 : (Jvm.Cond.code ({ cls := "AlgebraTree$Node", name := "<init>", desc := "(III)V" } : Jvm.MethodName) prog_4_method_1_code (4 : Nat) (Option.none : Option Jvm.ClassFile.FieldType)) ∈ gv_tbl := gv_in (List.mem_of_getElem? (i := 269) rfl) rfl
theorem wd_52 : (Jvm.Cond.initialized "AlgebraTree$Node") ∈ gv_tbl := gv_in (List.mem_of_getElem? (i := 52) (by decide +kernel)) rfl
theorem gy_X2_init : gv_y yX2_init 3 := ⟨by decide +kernel, by decide +kernel, by decide +kernel⟩
theorem wd_268 : (Jvm.Cond.instanceMethod ({ cls := "AlgebraTree$Node", name := "<init>", desc := "(III)V" } : Jvm.MethodName)) ∈ gv_tbl := gv_in (List.mem_of_getElem? (i := 268) (by decide +kernel)) rfl
theorem mi_6_84 : gv_MI "AlgebraTree" 84 yX2_init cX2_init 4 3 := ⟨wd_269, rfl, wd_268, wd_52, gy_X2_init, Or.inl wd_267⟩
theorem wd_328 : (Jvm.Cond.methodLink "AlgebraTree" (97 : Nat) ({ cls := "AlgebraTree$Nodes", name := "add", desc := "(LAlgebraTree$Node;)I" } : Jvm.MethodName)) ∈ gv_tbl := gv_in (List.mem_of_getElem? (i := 328) (by decide +kernel)) rfl
set_option maxRecDepth 100000 in
theorem wd_331 : (Jvm.Cond.code ({ cls := "AlgebraTree$Nodes", name := "add", desc := "(LAlgebraTree$Node;)I" } : Jvm.MethodName) prog_5_method_5_code (2 : Nat) (Option.some Jvm.ClassFile.FieldType.int)) ∈ gv_tbl := gv_in (List.mem_of_getElem? (i := 331) rfl) rfl
theorem gy_X3_add : gv_y yX3_add 1 := ⟨by decide +kernel, by decide +kernel, by decide +kernel⟩
theorem wd_329 : (Jvm.Cond.instanceMethod ({ cls := "AlgebraTree$Nodes", name := "add", desc := "(LAlgebraTree$Node;)I" } : Jvm.MethodName)) ∈ gv_tbl := gv_in (List.mem_of_getElem? (i := 329) (by decide +kernel)) rfl
theorem wd_330 : (Jvm.Cond.selects "AlgebraTree$Nodes" ({ cls := "AlgebraTree$Nodes", name := "add", desc := "(LAlgebraTree$Node;)I" } : Jvm.MethodName) ({ cls := "AlgebraTree$Nodes", name := "add", desc := "(LAlgebraTree$Node;)I" } : Jvm.MethodName)) ∈ gv_tbl := gv_in (List.mem_of_getElem? (i := 330) (by decide +kernel)) rfl
theorem mv_6_97 : gv_MV "AlgebraTree" 97 yX3_add cX3_add 2 (some .int) 1 3 := ⟨wd_331, wd_329, wd_330, wd_49, gy_X3_add, Or.inl wd_328, TX3, 2, rfl⟩
theorem wd_337 : (Jvm.Cond.methodLink "AlgebraTree" (100 : Nat) ({ cls := "AlgebraTree$Nodes", name := "canStandOver", desc := "(I)Z" } : Jvm.MethodName)) ∈ gv_tbl := gv_in (List.mem_of_getElem? (i := 337) (by decide +kernel)) rfl
set_option maxRecDepth 100000 in
theorem wd_340 : (Jvm.Cond.code ({ cls := "AlgebraTree$Nodes", name := "canStandOver", desc := "(I)Z" } : Jvm.MethodName) prog_5_method_4_code (2 : Nat) (Option.some Jvm.ClassFile.FieldType.boolean)) ∈ gv_tbl := gv_in (List.mem_of_getElem? (i := 340) rfl) rfl
theorem gy_X3_canStandOver : gv_y yX3_canStandOver 1 := ⟨by decide +kernel, by decide +kernel, by decide +kernel⟩
theorem wd_338 : (Jvm.Cond.instanceMethod ({ cls := "AlgebraTree$Nodes", name := "canStandOver", desc := "(I)Z" } : Jvm.MethodName)) ∈ gv_tbl := gv_in (List.mem_of_getElem? (i := 338) (by decide +kernel)) rfl
theorem wd_339 : (Jvm.Cond.selects "AlgebraTree$Nodes" ({ cls := "AlgebraTree$Nodes", name := "canStandOver", desc := "(I)Z" } : Jvm.MethodName) ({ cls := "AlgebraTree$Nodes", name := "canStandOver", desc := "(I)Z" } : Jvm.MethodName)) ∈ gv_tbl := gv_in (List.mem_of_getElem? (i := 339) (by decide +kernel)) rfl
theorem mv_6_100 : gv_MV "AlgebraTree" 100 yX3_canStandOver cX3_canStandOver 2 (some .boolean) 1 3 := ⟨wd_340, wd_338, wd_339, wd_49, gy_X3_canStandOver, Or.inl wd_337, TX3, 2, rfl⟩
theorem wd_346 : (Jvm.Cond.methodLink "AlgebraTree" (103 : Nat) ({ cls := "AlgebraTree$Nodes", name := "has", desc := "(I)Z" } : Jvm.MethodName)) ∈ gv_tbl := gv_in (List.mem_of_getElem? (i := 346) (by decide +kernel)) rfl
set_option maxRecDepth 100000 in
theorem wd_344 : (Jvm.Cond.code ({ cls := "AlgebraTree$Nodes", name := "has", desc := "(I)Z" } : Jvm.MethodName) prog_5_method_3_code (2 : Nat) (Option.some Jvm.ClassFile.FieldType.boolean)) ∈ gv_tbl := gv_in (List.mem_of_getElem? (i := 344) rfl) rfl
theorem gy_X3_has : gv_y yX3_has 1 := ⟨by decide +kernel, by decide +kernel, by decide +kernel⟩
theorem wd_342 : (Jvm.Cond.instanceMethod ({ cls := "AlgebraTree$Nodes", name := "has", desc := "(I)Z" } : Jvm.MethodName)) ∈ gv_tbl := gv_in (List.mem_of_getElem? (i := 342) (by decide +kernel)) rfl
theorem wd_343 : (Jvm.Cond.selects "AlgebraTree$Nodes" ({ cls := "AlgebraTree$Nodes", name := "has", desc := "(I)Z" } : Jvm.MethodName) ({ cls := "AlgebraTree$Nodes", name := "has", desc := "(I)Z" } : Jvm.MethodName)) ∈ gv_tbl := gv_in (List.mem_of_getElem? (i := 343) (by decide +kernel)) rfl
theorem mv_6_103 : gv_MV "AlgebraTree" 103 yX3_has cX3_has 2 (some .boolean) 1 3 := ⟨wd_344, wd_342, wd_343, wd_49, gy_X3_has, Or.inl wd_346, TX3, 2, rfl⟩
theorem wd_371 : (Jvm.Cond.methodLink "AlgebraTree" (113 : Nat) ({ cls := "AlgebraTree", name := "isSliceNumber", desc := "(I)Z" } : Jvm.MethodName)) ∈ gv_tbl := gv_in (List.mem_of_getElem? (i := 371) (by decide +kernel)) rfl
set_option maxRecDepth 100000 in
theorem wd_373 : (Jvm.Cond.code ({ cls := "AlgebraTree", name := "isSliceNumber", desc := "(I)Z" } : Jvm.MethodName) prog_1_method_27_code (1 : Nat) (Option.some Jvm.ClassFile.FieldType.boolean)) ∈ gv_tbl := gv_in (List.mem_of_getElem? (i := 373) rfl) rfl
theorem gy_X6_isSliceNumber : gv_y yX6_isSliceNumber 1 := ⟨by decide +kernel, by decide +kernel, by decide +kernel⟩
theorem wd_372 : (Jvm.Cond.static ({ cls := "AlgebraTree", name := "isSliceNumber", desc := "(I)Z" } : Jvm.MethodName)) ∈ gv_tbl := gv_in (List.mem_of_getElem? (i := 372) (by decide +kernel)) rfl
theorem ms_6_113 : gv_MS "AlgebraTree" 113 yX6_isSliceNumber cX6_isSliceNumber 1 (some .boolean) 1 := ⟨wd_373, wd_372, wd_45, gy_X6_isSliceNumber, Or.inl wd_371⟩
theorem wd_382 : (Jvm.Cond.methodLink "AlgebraTree" (126 : Nat) ({ cls := "AlgebraTree", name := "isInSet", desc := "(II)Z" } : Jvm.MethodName)) ∈ gv_tbl := gv_in (List.mem_of_getElem? (i := 382) (by decide +kernel)) rfl
set_option maxRecDepth 100000 in
theorem wd_384 : (Jvm.Cond.code ({ cls := "AlgebraTree", name := "isInSet", desc := "(II)Z" } : Jvm.MethodName) prog_1_method_28_code (2 : Nat) (Option.some Jvm.ClassFile.FieldType.boolean)) ∈ gv_tbl := gv_in (List.mem_of_getElem? (i := 384) rfl) rfl
theorem gy_X6_isInSet : gv_y yX6_isInSet 2 := ⟨by decide +kernel, by decide +kernel, by decide +kernel⟩
theorem wd_383 : (Jvm.Cond.static ({ cls := "AlgebraTree", name := "isInSet", desc := "(II)Z" } : Jvm.MethodName)) ∈ gv_tbl := gv_in (List.mem_of_getElem? (i := 383) (by decide +kernel)) rfl
theorem ms_6_126 : gv_MS "AlgebraTree" 126 yX6_isInSet cX6_isInSet 2 (some .boolean) 2 := ⟨wd_384, wd_383, wd_45, gy_X6_isInSet, Or.inl wd_382⟩
theorem wd_397 : (Jvm.Cond.methodLink "AlgebraTree" (135 : Nat) ({ cls := "AlgebraTree$Maker", name := "rowsOf", desc := "(I)LAlgebraTree$Rows;" } : Jvm.MethodName)) ∈ gv_tbl := gv_in (List.mem_of_getElem? (i := 397) (by decide +kernel)) rfl
set_option maxRecDepth 100000 in
theorem wd_400 : (Jvm.Cond.code ({ cls := "AlgebraTree$Maker", name := "rowsOf", desc := "(I)LAlgebraTree$Rows;" } : Jvm.MethodName) prog_3_method_2_code (4 : Nat) (Option.some (Jvm.ClassFile.FieldType.object "AlgebraTree$Rows"))) ∈ gv_tbl := gv_in (List.mem_of_getElem? (i := 400) rfl) rfl
theorem gy_X1_rowsOf : gv_y yX1_rowsOf 1 := ⟨by decide +kernel, by decide +kernel, by decide +kernel⟩
theorem wd_398 : (Jvm.Cond.instanceMethod ({ cls := "AlgebraTree$Maker", name := "rowsOf", desc := "(I)LAlgebraTree$Rows;" } : Jvm.MethodName)) ∈ gv_tbl := gv_in (List.mem_of_getElem? (i := 398) (by decide +kernel)) rfl
theorem wd_399 : (Jvm.Cond.selects "AlgebraTree$Maker" ({ cls := "AlgebraTree$Maker", name := "rowsOf", desc := "(I)LAlgebraTree$Rows;" } : Jvm.MethodName) ({ cls := "AlgebraTree$Maker", name := "rowsOf", desc := "(I)LAlgebraTree$Rows;" } : Jvm.MethodName)) ∈ gv_tbl := gv_in (List.mem_of_getElem? (i := 399) (by decide +kernel)) rfl
theorem mv_6_135 : gv_MV "AlgebraTree" 135 yX1_rowsOf cX1_rowsOf 4 (some (.object "AlgebraTree$Rows")) 1 1 := ⟨wd_400, wd_398, wd_399, wd_46, gy_X1_rowsOf, Or.inl wd_397, TX1, 7, rfl⟩
theorem wd_587 : (Jvm.Cond.methodLink "AlgebraTree" (142 : Nat) ({ cls := "AlgebraTree$Rows", name := "become", desc := "(LAlgebraTree$Rows;)V" } : Jvm.MethodName)) ∈ gv_tbl := gv_in (List.mem_of_getElem? (i := 587) (by decide +kernel)) rfl
set_option maxRecDepth 100000 in
theorem wd_590 : (Jvm.Cond.code ({ cls := "AlgebraTree$Rows", name := "become", desc := "(LAlgebraTree$Rows;)V" } : Jvm.MethodName) prog_6_method_5_code (2 : Nat) (Option.none : Option Jvm.ClassFile.FieldType)) ∈ gv_tbl := gv_in (List.mem_of_getElem? (i := 590) rfl) rfl
theorem gy_X4_become : gv_y yX4_become 1 := ⟨by decide +kernel, by decide +kernel, by decide +kernel⟩
theorem wd_588 : (Jvm.Cond.instanceMethod ({ cls := "AlgebraTree$Rows", name := "become", desc := "(LAlgebraTree$Rows;)V" } : Jvm.MethodName)) ∈ gv_tbl := gv_in (List.mem_of_getElem? (i := 588) (by decide +kernel)) rfl
theorem wd_589 : (Jvm.Cond.selects "AlgebraTree$Rows" ({ cls := "AlgebraTree$Rows", name := "become", desc := "(LAlgebraTree$Rows;)V" } : Jvm.MethodName) ({ cls := "AlgebraTree$Rows", name := "become", desc := "(LAlgebraTree$Rows;)V" } : Jvm.MethodName)) ∈ gv_tbl := gv_in (List.mem_of_getElem? (i := 589) (by decide +kernel)) rfl
theorem mv_6_142 : gv_MV "AlgebraTree" 142 yX4_become cX4_become 2 none 1 4 := ⟨wd_590, wd_588, wd_589, wd_50, gy_X4_become, Or.inl wd_587, TX4, 4, rfl⟩
theorem wd_598 : (Jvm.Cond.methodLink "AlgebraTree" (149 : Nat) ({ cls := "AlgebraTree$Rows", name := "at", desc := "(II)I" } : Jvm.MethodName)) ∈ gv_tbl := gv_in (List.mem_of_getElem? (i := 598) (by decide +kernel)) rfl
set_option maxRecDepth 100000 in
theorem wd_448 : (Jvm.Cond.code ({ cls := "AlgebraTree$Rows", name := "at", desc := "(II)I" } : Jvm.MethodName) prog_6_method_2_code (3 : Nat) (Option.some Jvm.ClassFile.FieldType.int)) ∈ gv_tbl := gv_in (List.mem_of_getElem? (i := 448) rfl) rfl
theorem gy_X4_at : gv_y yX4_at 2 := ⟨by decide +kernel, by decide +kernel, by decide +kernel⟩
theorem wd_446 : (Jvm.Cond.instanceMethod ({ cls := "AlgebraTree$Rows", name := "at", desc := "(II)I" } : Jvm.MethodName)) ∈ gv_tbl := gv_in (List.mem_of_getElem? (i := 446) (by decide +kernel)) rfl
theorem wd_447 : (Jvm.Cond.selects "AlgebraTree$Rows" ({ cls := "AlgebraTree$Rows", name := "at", desc := "(II)I" } : Jvm.MethodName) ({ cls := "AlgebraTree$Rows", name := "at", desc := "(II)I" } : Jvm.MethodName)) ∈ gv_tbl := gv_in (List.mem_of_getElem? (i := 447) (by decide +kernel)) rfl
theorem mv_6_149 : gv_MV "AlgebraTree" 149 yX4_at cX4_at 3 (some .int) 2 4 := ⟨wd_448, wd_446, wd_447, wd_50, gy_X4_at, Or.inl wd_598, TX4, 4, rfl⟩
theorem wd_603 : (Jvm.Cond.methodLink "AlgebraTree" (153 : Nat) ({ cls := "AlgebraTree$Expressions", name := "valueOf", desc := "(ILAlgebraTree$Rows;I)I" } : Jvm.MethodName)) ∈ gv_tbl := gv_in (List.mem_of_getElem? (i := 603) (by decide +kernel)) rfl
set_option maxRecDepth 100000 in
theorem wd_473 : (Jvm.Cond.code ({ cls := "AlgebraTree$Expressions", name := "valueOf", desc := "(ILAlgebraTree$Rows;I)I" } : Jvm.MethodName) prog_2_method_6_code (5 : Nat) (Option.some Jvm.ClassFile.FieldType.int)) ∈ gv_tbl := gv_in (List.mem_of_getElem? (i := 473) rfl) rfl
theorem gy_X0_valueOf : gv_y yX0_valueOf 3 := ⟨by decide +kernel, by decide +kernel, by decide +kernel⟩
theorem wd_471 : (Jvm.Cond.instanceMethod ({ cls := "AlgebraTree$Expressions", name := "valueOf", desc := "(ILAlgebraTree$Rows;I)I" } : Jvm.MethodName)) ∈ gv_tbl := gv_in (List.mem_of_getElem? (i := 471) (by decide +kernel)) rfl
theorem wd_472 : (Jvm.Cond.selects "AlgebraTree$Expressions" ({ cls := "AlgebraTree$Expressions", name := "valueOf", desc := "(ILAlgebraTree$Rows;I)I" } : Jvm.MethodName) ({ cls := "AlgebraTree$Expressions", name := "valueOf", desc := "(ILAlgebraTree$Rows;I)I" } : Jvm.MethodName)) ∈ gv_tbl := gv_in (List.mem_of_getElem? (i := 472) (by decide +kernel)) rfl
theorem mv_6_153 : gv_MV "AlgebraTree" 153 yX0_valueOf cX0_valueOf 5 (some .int) 3 0 := ⟨wd_473, wd_471, wd_472, wd_48, gy_X0_valueOf, Or.inl wd_603, TX0, 6, rfl⟩
theorem wd_608 : (Jvm.Cond.methodLink "AlgebraTree" (157 : Nat) ({ cls := "AlgebraTree$Rows", name := "countLike", desc := "(LAlgebraTree$Rows;I)I" } : Jvm.MethodName)) ∈ gv_tbl := gv_in (List.mem_of_getElem? (i := 608) (by decide +kernel)) rfl
set_option maxRecDepth 100000 in
theorem wd_611 : (Jvm.Cond.code ({ cls := "AlgebraTree$Rows", name := "countLike", desc := "(LAlgebraTree$Rows;I)I" } : Jvm.MethodName) prog_6_method_17_code (5 : Nat) (Option.some Jvm.ClassFile.FieldType.int)) ∈ gv_tbl := gv_in (List.mem_of_getElem? (i := 611) rfl) rfl
theorem gy_X4_countLike : gv_y yX4_countLike 2 := ⟨by decide +kernel, by decide +kernel, by decide +kernel⟩
theorem wd_609 : (Jvm.Cond.instanceMethod ({ cls := "AlgebraTree$Rows", name := "countLike", desc := "(LAlgebraTree$Rows;I)I" } : Jvm.MethodName)) ∈ gv_tbl := gv_in (List.mem_of_getElem? (i := 609) (by decide +kernel)) rfl
theorem wd_610 : (Jvm.Cond.selects "AlgebraTree$Rows" ({ cls := "AlgebraTree$Rows", name := "countLike", desc := "(LAlgebraTree$Rows;I)I" } : Jvm.MethodName) ({ cls := "AlgebraTree$Rows", name := "countLike", desc := "(LAlgebraTree$Rows;I)I" } : Jvm.MethodName)) ∈ gv_tbl := gv_in (List.mem_of_getElem? (i := 610) (by decide +kernel)) rfl
theorem mv_6_157 : gv_MV "AlgebraTree" 157 yX4_countLike cX4_countLike 5 (some .int) 2 4 := ⟨wd_611, wd_609, wd_610, wd_50, gy_X4_countLike, Or.inl wd_608, TX4, 4, rfl⟩
theorem wd_616 : (Jvm.Cond.methodLink "AlgebraTree" (161 : Nat) ({ cls := "AlgebraTree$Rows", name := "isSameBagAs", desc := "(LAlgebraTree$Rows;)Z" } : Jvm.MethodName)) ∈ gv_tbl := gv_in (List.mem_of_getElem? (i := 616) (by decide +kernel)) rfl
set_option maxRecDepth 100000 in
theorem wd_619 : (Jvm.Cond.code ({ cls := "AlgebraTree$Rows", name := "isSameBagAs", desc := "(LAlgebraTree$Rows;)Z" } : Jvm.MethodName) prog_6_method_18_code (3 : Nat) (Option.some Jvm.ClassFile.FieldType.boolean)) ∈ gv_tbl := gv_in (List.mem_of_getElem? (i := 619) rfl) rfl
theorem gy_X4_isSameBagAs : gv_y yX4_isSameBagAs 1 := ⟨by decide +kernel, by decide +kernel, by decide +kernel⟩
theorem wd_617 : (Jvm.Cond.instanceMethod ({ cls := "AlgebraTree$Rows", name := "isSameBagAs", desc := "(LAlgebraTree$Rows;)Z" } : Jvm.MethodName)) ∈ gv_tbl := gv_in (List.mem_of_getElem? (i := 617) (by decide +kernel)) rfl
theorem wd_618 : (Jvm.Cond.selects "AlgebraTree$Rows" ({ cls := "AlgebraTree$Rows", name := "isSameBagAs", desc := "(LAlgebraTree$Rows;)Z" } : Jvm.MethodName) ({ cls := "AlgebraTree$Rows", name := "isSameBagAs", desc := "(LAlgebraTree$Rows;)Z" } : Jvm.MethodName)) ∈ gv_tbl := gv_in (List.mem_of_getElem? (i := 618) (by decide +kernel)) rfl
theorem mv_6_161 : gv_MV "AlgebraTree" 161 yX4_isSameBagAs cX4_isSameBagAs 3 (some .boolean) 1 4 := ⟨wd_619, wd_617, wd_618, wd_50, gy_X4_isSameBagAs, Or.inl wd_616, TX4, 4, rfl⟩
theorem wd_249 : (Jvm.Cond.methodLinkNest "AlgebraTree$Expressions" (31 : Nat) ({ cls := "AlgebraTree", name := "isBelow", desc := "(II)Z" } : Jvm.MethodName) "AlgebraTree") ∈ gv_tbl := gv_in (List.mem_of_getElem? (i := 249) (by decide +kernel)) rfl
theorem ms_0_31 : gv_MS "AlgebraTree$Expressions" 31 yX6_isBelow cX6_isBelow 2 (some .boolean) 2 := ⟨wd_210, wd_209, wd_45, gy_X6_isBelow, Or.inr ⟨"AlgebraTree", wd_249⟩⟩
theorem wd_237 : (Jvm.Cond.methodLink "AlgebraTree$Expressions" (35 : Nat) ({ cls := "AlgebraTree$Expressions", name := "add", desc := "(IIII)I" } : Jvm.MethodName)) ∈ gv_tbl := gv_in (List.mem_of_getElem? (i := 237) (by decide +kernel)) rfl
set_option maxRecDepth 100000 in
theorem wd_240 : (Jvm.Cond.code ({ cls := "AlgebraTree$Expressions", name := "add", desc := "(IIII)I" } : Jvm.MethodName) prog_2_method_5_code (5 : Nat) (Option.some Jvm.ClassFile.FieldType.int)) ∈ gv_tbl := gv_in (List.mem_of_getElem? (i := 240) rfl) rfl
theorem gy_X0_add : gv_y yX0_add 4 := ⟨by decide +kernel, by decide +kernel, by decide +kernel⟩
theorem wd_239 : (Jvm.Cond.instanceMethod ({ cls := "AlgebraTree$Expressions", name := "add", desc := "(IIII)I" } : Jvm.MethodName)) ∈ gv_tbl := gv_in (List.mem_of_getElem? (i := 239) (by decide +kernel)) rfl
theorem wd_1 : (Jvm.Cond.selects "AlgebraTree$Expressions" ⟨"AlgebraTree$Expressions", "add", "(IIII)I"⟩ ⟨"AlgebraTree$Expressions", "add", "(IIII)I"⟩) ∈ gv_tbl := gv_in (List.mem_of_getElem? (i := 1) (by decide +kernel)) rfl
theorem mv_0_35 : gv_MV "AlgebraTree$Expressions" 35 yX0_add cX0_add 5 (some .int) 4 0 := ⟨wd_240, wd_239, wd_1, wd_48, gy_X0_add, Or.inl wd_237, TX0, 6, rfl⟩
theorem wd_474 : (Jvm.Cond.methodLink "AlgebraTree$Expressions" (39 : Nat) ({ cls := "AlgebraTree$Expressions", name := "leafValue", desc := "(IILAlgebraTree$Rows;I)I" } : Jvm.MethodName)) ∈ gv_tbl := gv_in (List.mem_of_getElem? (i := 474) (by decide +kernel)) rfl
set_option maxRecDepth 100000 in
theorem wd_476 : (Jvm.Cond.code ({ cls := "AlgebraTree$Expressions", name := "leafValue", desc := "(IILAlgebraTree$Rows;I)I" } : Jvm.MethodName) prog_2_method_7_code (5 : Nat) (Option.some Jvm.ClassFile.FieldType.int)) ∈ gv_tbl := gv_in (List.mem_of_getElem? (i := 476) rfl) rfl
theorem gy_X0_leafValue : gv_y yX0_leafValue 4 := ⟨by decide +kernel, by decide +kernel, by decide +kernel⟩
theorem wd_475 : (Jvm.Cond.static ({ cls := "AlgebraTree$Expressions", name := "leafValue", desc := "(IILAlgebraTree$Rows;I)I" } : Jvm.MethodName)) ∈ gv_tbl := gv_in (List.mem_of_getElem? (i := 475) (by decide +kernel)) rfl
theorem ms_0_39 : gv_MS "AlgebraTree$Expressions" 39 yX0_leafValue cX0_leafValue 5 (some .int) 4 := ⟨wd_476, wd_475, wd_48, gy_X0_leafValue, Or.inl wd_474⟩
theorem wd_479 : (Jvm.Cond.methodLink "AlgebraTree$Expressions" (43 : Nat) ({ cls := "AlgebraTree$Expressions", name := "logicValue", desc := "(III)I" } : Jvm.MethodName)) ∈ gv_tbl := gv_in (List.mem_of_getElem? (i := 479) (by decide +kernel)) rfl
set_option maxRecDepth 100000 in
theorem wd_481 : (Jvm.Cond.code ({ cls := "AlgebraTree$Expressions", name := "logicValue", desc := "(III)I" } : Jvm.MethodName) prog_2_method_8_code (3 : Nat) (Option.some Jvm.ClassFile.FieldType.int)) ∈ gv_tbl := gv_in (List.mem_of_getElem? (i := 481) rfl) rfl
theorem gy_X0_logicValue : gv_y yX0_logicValue 3 := ⟨by decide +kernel, by decide +kernel, by decide +kernel⟩
theorem wd_480 : (Jvm.Cond.static ({ cls := "AlgebraTree$Expressions", name := "logicValue", desc := "(III)I" } : Jvm.MethodName)) ∈ gv_tbl := gv_in (List.mem_of_getElem? (i := 480) (by decide +kernel)) rfl
theorem ms_0_43 : gv_MS "AlgebraTree$Expressions" 43 yX0_logicValue cX0_logicValue 3 (some .int) 3 := ⟨wd_481, wd_480, wd_48, gy_X0_logicValue, Or.inl wd_479⟩
theorem wd_486 : (Jvm.Cond.methodLink "AlgebraTree$Expressions" (47 : Nat) ({ cls := "AlgebraTree$Expressions", name := "number", desc := "(III)J" } : Jvm.MethodName)) ∈ gv_tbl := gv_in (List.mem_of_getElem? (i := 486) (by decide +kernel)) rfl
set_option maxRecDepth 100000 in
theorem wd_488 : (Jvm.Cond.code ({ cls := "AlgebraTree$Expressions", name := "number", desc := "(III)J" } : Jvm.MethodName) prog_2_method_9_code (3 : Nat) (Option.some Jvm.ClassFile.FieldType.long)) ∈ gv_tbl := gv_in (List.mem_of_getElem? (i := 488) rfl) rfl
theorem gy_X0_number : gv_y yX0_number 3 := ⟨by decide +kernel, by decide +kernel, by decide +kernel⟩
theorem wd_487 : (Jvm.Cond.static ({ cls := "AlgebraTree$Expressions", name := "number", desc := "(III)J" } : Jvm.MethodName)) ∈ gv_tbl := gv_in (List.mem_of_getElem? (i := 487) (by decide +kernel)) rfl
theorem ms_0_47 : gv_MS "AlgebraTree$Expressions" 47 yX0_number cX0_number 3 (some .long) 3 := ⟨wd_488, wd_487, wd_48, gy_X0_number, Or.inl wd_486⟩
theorem wd_490 : (Jvm.Cond.methodLinkNest "AlgebraTree$Expressions" (51 : Nat) ({ cls := "AlgebraTree", name := "valueOrError", desc := "(J)I" } : Jvm.MethodName) "AlgebraTree") ∈ gv_tbl := gv_in (List.mem_of_getElem? (i := 490) (by decide +kernel)) rfl
set_option maxRecDepth 100000 in
theorem wd_492 : (Jvm.Cond.code ({ cls := "AlgebraTree", name := "valueOrError", desc := "(J)I" } : Jvm.MethodName) prog_1_method_30_code (2 : Nat) (Option.some Jvm.ClassFile.FieldType.int)) ∈ gv_tbl := gv_in (List.mem_of_getElem? (i := 492) rfl) rfl
theorem gy_X6_valueOrError : gv_y yX6_valueOrError 1 := ⟨by decide +kernel, by decide +kernel, by decide +kernel⟩
theorem wd_491 : (Jvm.Cond.static ({ cls := "AlgebraTree", name := "valueOrError", desc := "(J)I" } : Jvm.MethodName)) ∈ gv_tbl := gv_in (List.mem_of_getElem? (i := 491) (by decide +kernel)) rfl
theorem ms_0_51 : gv_MS "AlgebraTree$Expressions" 51 yX6_valueOrError cX6_valueOrError 2 (some .int) 1 := ⟨wd_492, wd_491, wd_45, gy_X6_valueOrError, Or.inr ⟨"AlgebraTree", wd_490⟩⟩
theorem wd_477 : (Jvm.Cond.methodLink "AlgebraTree$Expressions" (55 : Nat) ({ cls := "AlgebraTree$Rows", name := "at", desc := "(II)I" } : Jvm.MethodName)) ∈ gv_tbl := gv_in (List.mem_of_getElem? (i := 477) (by decide +kernel)) rfl
theorem mv_0_55 : gv_MV "AlgebraTree$Expressions" 55 yX4_at cX4_at 3 (some .int) 2 4 := ⟨wd_448, wd_446, wd_447, wd_50, gy_X4_at, Or.inl wd_477, TX4, 4, rfl⟩
theorem wd_482 : (Jvm.Cond.methodLinkNest "AlgebraTree$Expressions" (62 : Nat) ({ cls := "AlgebraTree", name := "isTrue", desc := "(I)Z" } : Jvm.MethodName) "AlgebraTree") ∈ gv_tbl := gv_in (List.mem_of_getElem? (i := 482) (by decide +kernel)) rfl
set_option maxRecDepth 100000 in
theorem wd_484 : (Jvm.Cond.code ({ cls := "AlgebraTree", name := "isTrue", desc := "(I)Z" } : Jvm.MethodName) prog_1_method_29_code (1 : Nat) (Option.some Jvm.ClassFile.FieldType.boolean)) ∈ gv_tbl := gv_in (List.mem_of_getElem? (i := 484) rfl) rfl
theorem gy_X6_isTrue : gv_y yX6_isTrue 1 := ⟨by decide +kernel, by decide +kernel, by decide +kernel⟩
theorem wd_483 : (Jvm.Cond.static ({ cls := "AlgebraTree", name := "isTrue", desc := "(I)Z" } : Jvm.MethodName)) ∈ gv_tbl := gv_in (List.mem_of_getElem? (i := 483) (by decide +kernel)) rfl
theorem ms_0_62 : gv_MS "AlgebraTree$Expressions" 62 yX6_isTrue cX6_isTrue 1 (some .boolean) 1 := ⟨wd_484, wd_483, wd_45, gy_X6_isTrue, Or.inr ⟨"AlgebraTree", wd_482⟩⟩
theorem wd_71 : (Jvm.Cond.methodLink "AlgebraTree$Maker" (11 : Nat) ({ cls := "AlgebraTree$Triples", name := "<init>", desc := "()V" } : Jvm.MethodName)) ∈ gv_tbl := gv_in (List.mem_of_getElem? (i := 71) (by decide +kernel)) rfl
set_option maxRecDepth 100000 in
theorem wd_73 : (Jvm.Cond.code ({ cls := "AlgebraTree$Triples", name := "<init>", desc := "()V" } : Jvm.MethodName) prog_7_method_1_code (1 : Nat) (Option.none : Option Jvm.ClassFile.FieldType)) ∈ gv_tbl := gv_in (List.mem_of_getElem? (i := 73) rfl) rfl
theorem gy_X5_init : gv_y yX5_init 0 := ⟨by decide +kernel, by decide +kernel, by decide +kernel⟩
theorem wd_72 : (Jvm.Cond.instanceMethod ({ cls := "AlgebraTree$Triples", name := "<init>", desc := "()V" } : Jvm.MethodName)) ∈ gv_tbl := gv_in (List.mem_of_getElem? (i := 72) (by decide +kernel)) rfl
theorem mi_1_11 : gv_MI "AlgebraTree$Maker" 11 yX5_init cX5_init 1 0 := ⟨wd_73, rfl, wd_72, wd_47, gy_X5_init, Or.inl wd_71⟩
theorem wd_99 : (Jvm.Cond.methodLink "AlgebraTree$Maker" (20 : Nat) ({ cls := "AlgebraTree$Expressions", name := "<init>", desc := "()V" } : Jvm.MethodName)) ∈ gv_tbl := gv_in (List.mem_of_getElem? (i := 99) (by decide +kernel)) rfl
set_option maxRecDepth 100000 in
theorem wd_101 : (Jvm.Cond.code ({ cls := "AlgebraTree$Expressions", name := "<init>", desc := "()V" } : Jvm.MethodName) prog_2_method_1_code (1 : Nat) (Option.none : Option Jvm.ClassFile.FieldType)) ∈ gv_tbl := gv_in (List.mem_of_getElem? (i := 101) rfl) rfl
theorem gy_X0_init : gv_y yX0_init 0 := ⟨by decide +kernel, by decide +kernel, by decide +kernel⟩
theorem wd_100 : (Jvm.Cond.instanceMethod ({ cls := "AlgebraTree$Expressions", name := "<init>", desc := "()V" } : Jvm.MethodName)) ∈ gv_tbl := gv_in (List.mem_of_getElem? (i := 100) (by decide +kernel)) rfl
theorem mi_1_20 : gv_MI "AlgebraTree$Maker" 20 yX0_init cX0_init 1 0 := ⟨wd_101, rfl, wd_100, wd_48, gy_X0_init, Or.inl wd_99⟩
theorem wd_124 : (Jvm.Cond.methodLink "AlgebraTree$Maker" (27 : Nat) ({ cls := "AlgebraTree$Nodes", name := "<init>", desc := "()V" } : Jvm.MethodName)) ∈ gv_tbl := gv_in (List.mem_of_getElem? (i := 124) (by decide +kernel)) rfl
set_option maxRecDepth 100000 in
theorem wd_126 : (Jvm.Cond.code ({ cls := "AlgebraTree$Nodes", name := "<init>", desc := "()V" } : Jvm.MethodName) prog_5_method_1_code (1 : Nat) (Option.none : Option Jvm.ClassFile.FieldType)) ∈ gv_tbl := gv_in (List.mem_of_getElem? (i := 126) rfl) rfl
theorem gy_X3_init : gv_y yX3_init 0 := ⟨by decide +kernel, by decide +kernel, by decide +kernel⟩
theorem wd_125 : (Jvm.Cond.instanceMethod ({ cls := "AlgebraTree$Nodes", name := "<init>", desc := "()V" } : Jvm.MethodName)) ∈ gv_tbl := gv_in (List.mem_of_getElem? (i := 125) (by decide +kernel)) rfl
theorem mi_1_27 : gv_MI "AlgebraTree$Maker" 27 yX3_init cX3_init 1 0 := ⟨wd_126, rfl, wd_125, wd_49, gy_X3_init, Or.inl wd_124⟩
theorem wd_401 : (Jvm.Cond.methodLink "AlgebraTree$Maker" (48 : Nat) ({ cls := "AlgebraTree$Maker", name := "markWanted", desc := "(I)V" } : Jvm.MethodName)) ∈ gv_tbl := gv_in (List.mem_of_getElem? (i := 401) (by decide +kernel)) rfl
set_option maxRecDepth 100000 in
theorem wd_404 : (Jvm.Cond.code ({ cls := "AlgebraTree$Maker", name := "markWanted", desc := "(I)V" } : Jvm.MethodName) prog_3_method_3_code (5 : Nat) (Option.none : Option Jvm.ClassFile.FieldType)) ∈ gv_tbl := gv_in (List.mem_of_getElem? (i := 404) rfl) rfl
theorem gy_X1_markWanted : gv_y yX1_markWanted 1 := ⟨by decide +kernel, by decide +kernel, by decide +kernel⟩
theorem wd_403 : (Jvm.Cond.instanceMethod ({ cls := "AlgebraTree$Maker", name := "markWanted", desc := "(I)V" } : Jvm.MethodName)) ∈ gv_tbl := gv_in (List.mem_of_getElem? (i := 403) (by decide +kernel)) rfl
theorem wd_2 : (Jvm.Cond.selects "AlgebraTree$Maker" ⟨"AlgebraTree$Maker", "markWanted", "(I)V"⟩ ⟨"AlgebraTree$Maker", "markWanted", "(I)V"⟩) ∈ gv_tbl := gv_in (List.mem_of_getElem? (i := 2) (by decide +kernel)) rfl
theorem mv_1_48 : gv_MV "AlgebraTree$Maker" 48 yX1_markWanted cX1_markWanted 5 none 1 1 := ⟨wd_404, wd_403, wd_2, wd_46, gy_X1_markWanted, Or.inl wd_401, TX1, 7, rfl⟩
theorem wd_412 : (Jvm.Cond.methodLink "AlgebraTree$Maker" (52 : Nat) ({ cls := "AlgebraTree$Maker", name := "refresh", desc := "(II)V" } : Jvm.MethodName)) ∈ gv_tbl := gv_in (List.mem_of_getElem? (i := 412) (by decide +kernel)) rfl
set_option maxRecDepth 100000 in
theorem wd_415 : (Jvm.Cond.code ({ cls := "AlgebraTree$Maker", name := "refresh", desc := "(II)V" } : Jvm.MethodName) prog_3_method_6_code (6 : Nat) (Option.none : Option Jvm.ClassFile.FieldType)) ∈ gv_tbl := gv_in (List.mem_of_getElem? (i := 415) rfl) rfl
theorem gy_X1_refresh : gv_y yX1_refresh 2 := ⟨by decide +kernel, by decide +kernel, by decide +kernel⟩
theorem wd_414 : (Jvm.Cond.instanceMethod ({ cls := "AlgebraTree$Maker", name := "refresh", desc := "(II)V" } : Jvm.MethodName)) ∈ gv_tbl := gv_in (List.mem_of_getElem? (i := 414) (by decide +kernel)) rfl
theorem wd_3 : (Jvm.Cond.selects "AlgebraTree$Maker" ⟨"AlgebraTree$Maker", "refresh", "(II)V"⟩ ⟨"AlgebraTree$Maker", "refresh", "(II)V"⟩) ∈ gv_tbl := gv_in (List.mem_of_getElem? (i := 3) (by decide +kernel)) rfl
theorem mv_1_52 : gv_MV "AlgebraTree$Maker" 52 yX1_refresh cX1_refresh 6 none 2 1 := ⟨wd_415, wd_414, wd_3, wd_46, gy_X1_refresh, Or.inl wd_412, TX1, 7, rfl⟩
theorem wd_416 : (Jvm.Cond.methodLink "AlgebraTree$Maker" (56 : Nat) ({ cls := "AlgebraTree$Maker", name := "tableOf", desc := "(II)LAlgebraTree$Rows;" } : Jvm.MethodName)) ∈ gv_tbl := gv_in (List.mem_of_getElem? (i := 416) (by decide +kernel)) rfl
set_option maxRecDepth 100000 in
theorem wd_419 : (Jvm.Cond.code ({ cls := "AlgebraTree$Maker", name := "tableOf", desc := "(II)LAlgebraTree$Rows;" } : Jvm.MethodName) prog_3_method_5_code (4 : Nat) (Option.some (Jvm.ClassFile.FieldType.object "AlgebraTree$Rows"))) ∈ gv_tbl := gv_in (List.mem_of_getElem? (i := 419) rfl) rfl
theorem gy_X1_tableOf : gv_y yX1_tableOf 2 := ⟨by decide +kernel, by decide +kernel, by decide +kernel⟩
theorem wd_418 : (Jvm.Cond.instanceMethod ({ cls := "AlgebraTree$Maker", name := "tableOf", desc := "(II)LAlgebraTree$Rows;" } : Jvm.MethodName)) ∈ gv_tbl := gv_in (List.mem_of_getElem? (i := 418) (by decide +kernel)) rfl
theorem wd_4 : (Jvm.Cond.selects "AlgebraTree$Maker" ⟨"AlgebraTree$Maker", "tableOf", "(II)LAlgebraTree$Rows;"⟩ ⟨"AlgebraTree$Maker", "tableOf", "(II)LAlgebraTree$Rows;"⟩) ∈ gv_tbl := gv_in (List.mem_of_getElem? (i := 4) (by decide +kernel)) rfl
theorem mv_1_56 : gv_MV "AlgebraTree$Maker" 56 yX1_tableOf cX1_tableOf 4 (some (.object "AlgebraTree$Rows")) 2 1 := ⟨wd_419, wd_418, wd_4, wd_46, gy_X1_tableOf, Or.inl wd_416, TX1, 7, rfl⟩
theorem wd_405 : (Jvm.Cond.methodLink "AlgebraTree$Maker" (60 : Nat) ({ cls := "AlgebraTree$Nodes", name := "at", desc := "(I)LAlgebraTree$Node;" } : Jvm.MethodName)) ∈ gv_tbl := gv_in (List.mem_of_getElem? (i := 405) (by decide +kernel)) rfl
set_option maxRecDepth 100000 in
theorem wd_408 : (Jvm.Cond.code ({ cls := "AlgebraTree$Nodes", name := "at", desc := "(I)LAlgebraTree$Node;" } : Jvm.MethodName) prog_5_method_6_code (2 : Nat) (Option.some (Jvm.ClassFile.FieldType.object "AlgebraTree$Node"))) ∈ gv_tbl := gv_in (List.mem_of_getElem? (i := 408) rfl) rfl
theorem gy_X3_at : gv_y yX3_at 1 := ⟨by decide +kernel, by decide +kernel, by decide +kernel⟩
theorem wd_406 : (Jvm.Cond.instanceMethod ({ cls := "AlgebraTree$Nodes", name := "at", desc := "(I)LAlgebraTree$Node;" } : Jvm.MethodName)) ∈ gv_tbl := gv_in (List.mem_of_getElem? (i := 406) (by decide +kernel)) rfl
theorem wd_407 : (Jvm.Cond.selects "AlgebraTree$Nodes" ({ cls := "AlgebraTree$Nodes", name := "at", desc := "(I)LAlgebraTree$Node;" } : Jvm.MethodName) ({ cls := "AlgebraTree$Nodes", name := "at", desc := "(I)LAlgebraTree$Node;" } : Jvm.MethodName)) ∈ gv_tbl := gv_in (List.mem_of_getElem? (i := 407) (by decide +kernel)) rfl
theorem mv_1_60 : gv_MV "AlgebraTree$Maker" 60 yX3_at cX3_at 2 (some (.object "AlgebraTree$Node")) 1 3 := ⟨wd_408, wd_406, wd_407, wd_49, gy_X3_at, Or.inl wd_405, TX3, 2, rfl⟩
theorem wd_409 : (Jvm.Cond.methodLink "AlgebraTree$Maker" (64 : Nat) ({ cls := "AlgebraTree$Maker", name := "graphsBelow", desc := "(LAlgebraTree$Node;I)I" } : Jvm.MethodName)) ∈ gv_tbl := gv_in (List.mem_of_getElem? (i := 409) (by decide +kernel)) rfl
set_option maxRecDepth 100000 in
theorem wd_411 : (Jvm.Cond.code ({ cls := "AlgebraTree$Maker", name := "graphsBelow", desc := "(LAlgebraTree$Node;I)I" } : Jvm.MethodName) prog_3_method_4_code (2 : Nat) (Option.some Jvm.ClassFile.FieldType.int)) ∈ gv_tbl := gv_in (List.mem_of_getElem? (i := 411) rfl) rfl
theorem gy_X1_graphsBelow : gv_y yX1_graphsBelow 2 := ⟨by decide +kernel, by decide +kernel, by decide +kernel⟩
theorem wd_410 : (Jvm.Cond.static ({ cls := "AlgebraTree$Maker", name := "graphsBelow", desc := "(LAlgebraTree$Node;I)I" } : Jvm.MethodName)) ∈ gv_tbl := gv_in (List.mem_of_getElem? (i := 410) (by decide +kernel)) rfl
theorem ms_1_64 : gv_MS "AlgebraTree$Maker" 64 yX1_graphsBelow cX1_graphsBelow 2 (some .int) 2 := ⟨wd_411, wd_410, wd_46, gy_X1_graphsBelow, Or.inl wd_409⟩
theorem wd_420 : (Jvm.Cond.methodLink "AlgebraTree$Maker" (83 : Nat) ({ cls := "AlgebraTree$Rows", name := "<init>", desc := "()V" } : Jvm.MethodName)) ∈ gv_tbl := gv_in (List.mem_of_getElem? (i := 420) (by decide +kernel)) rfl
theorem mi_1_83 : gv_MI "AlgebraTree$Maker" 83 yX4_init cX4_init 1 0 := ⟨wd_168, rfl, wd_167, wd_50, gy_X4_init, Or.inl wd_420⟩
theorem wd_421 : (Jvm.Cond.methodLink "AlgebraTree$Maker" (90 : Nat) ({ cls := "AlgebraTree$Rows", name := "clear", desc := "()V" } : Jvm.MethodName)) ∈ gv_tbl := gv_in (List.mem_of_getElem? (i := 421) (by decide +kernel)) rfl
set_option maxRecDepth 100000 in
theorem wd_424 : (Jvm.Cond.code ({ cls := "AlgebraTree$Rows", name := "clear", desc := "()V" } : Jvm.MethodName) prog_6_method_4_code (1 : Nat) (Option.none : Option Jvm.ClassFile.FieldType)) ∈ gv_tbl := gv_in (List.mem_of_getElem? (i := 424) rfl) rfl
theorem gy_X4_clear : gv_y yX4_clear 0 := ⟨by decide +kernel, by decide +kernel, by decide +kernel⟩
theorem wd_422 : (Jvm.Cond.instanceMethod ({ cls := "AlgebraTree$Rows", name := "clear", desc := "()V" } : Jvm.MethodName)) ∈ gv_tbl := gv_in (List.mem_of_getElem? (i := 422) (by decide +kernel)) rfl
theorem wd_423 : (Jvm.Cond.selects "AlgebraTree$Rows" ({ cls := "AlgebraTree$Rows", name := "clear", desc := "()V" } : Jvm.MethodName) ({ cls := "AlgebraTree$Rows", name := "clear", desc := "()V" } : Jvm.MethodName)) ∈ gv_tbl := gv_in (List.mem_of_getElem? (i := 423) (by decide +kernel)) rfl
theorem mv_1_90 : gv_MV "AlgebraTree$Maker" 90 yX4_clear cX4_clear 1 none 0 4 := ⟨wd_424, wd_422, wd_423, wd_50, gy_X4_clear, Or.inl wd_421, TX4, 4, rfl⟩
theorem wd_425 : (Jvm.Cond.methodLink "AlgebraTree$Maker" (93 : Nat) ({ cls := "AlgebraTree$Maker", name := "makePattern", desc := "(LAlgebraTree$Node;ILAlgebraTree$Rows;)V" } : Jvm.MethodName)) ∈ gv_tbl := gv_in (List.mem_of_getElem? (i := 425) (by decide +kernel)) rfl
set_option maxRecDepth 100000 in
theorem wd_428 : (Jvm.Cond.code ({ cls := "AlgebraTree$Maker", name := "makePattern", desc := "(LAlgebraTree$Node;ILAlgebraTree$Rows;)V" } : Jvm.MethodName) prog_3_method_9_code (5 : Nat) (Option.none : Option Jvm.ClassFile.FieldType)) ∈ gv_tbl := gv_in (List.mem_of_getElem? (i := 428) rfl) rfl
theorem gy_X1_makePattern : gv_y yX1_makePattern 3 := ⟨by decide +kernel, by decide +kernel, by decide +kernel⟩
theorem wd_427 : (Jvm.Cond.instanceMethod ({ cls := "AlgebraTree$Maker", name := "makePattern", desc := "(LAlgebraTree$Node;ILAlgebraTree$Rows;)V" } : Jvm.MethodName)) ∈ gv_tbl := gv_in (List.mem_of_getElem? (i := 427) (by decide +kernel)) rfl
theorem wd_5 : (Jvm.Cond.selects "AlgebraTree$Maker" ⟨"AlgebraTree$Maker", "makePattern", "(LAlgebraTree$Node;ILAlgebraTree$Rows;)V"⟩ ⟨"AlgebraTree$Maker", "makePattern", "(LAlgebraTree$Node;ILAlgebraTree$Rows;)V"⟩) ∈ gv_tbl := gv_in (List.mem_of_getElem? (i := 5) (by decide +kernel)) rfl
theorem mv_1_93 : gv_MV "AlgebraTree$Maker" 93 yX1_makePattern cX1_makePattern 5 none 3 1 := ⟨wd_428, wd_427, wd_5, wd_46, gy_X1_makePattern, Or.inl wd_425, TX1, 7, rfl⟩
theorem wd_453 : (Jvm.Cond.methodLink "AlgebraTree$Maker" (97 : Nat) ({ cls := "AlgebraTree$Maker", name := "makeEachGraph", desc := "(LAlgebraTree$Node;LAlgebraTree$Rows;)V" } : Jvm.MethodName)) ∈ gv_tbl := gv_in (List.mem_of_getElem? (i := 453) (by decide +kernel)) rfl
set_option maxRecDepth 100000 in
theorem wd_456 : (Jvm.Cond.code ({ cls := "AlgebraTree$Maker", name := "makeEachGraph", desc := "(LAlgebraTree$Node;LAlgebraTree$Rows;)V" } : Jvm.MethodName) prog_3_method_11_code (6 : Nat) (Option.none : Option Jvm.ClassFile.FieldType)) ∈ gv_tbl := gv_in (List.mem_of_getElem? (i := 456) rfl) rfl
theorem gy_X1_makeEachGraph : gv_y yX1_makeEachGraph 2 := ⟨by decide +kernel, by decide +kernel, by decide +kernel⟩
theorem wd_455 : (Jvm.Cond.instanceMethod ({ cls := "AlgebraTree$Maker", name := "makeEachGraph", desc := "(LAlgebraTree$Node;LAlgebraTree$Rows;)V" } : Jvm.MethodName)) ∈ gv_tbl := gv_in (List.mem_of_getElem? (i := 455) (by decide +kernel)) rfl
theorem wd_6 : (Jvm.Cond.selects "AlgebraTree$Maker" ⟨"AlgebraTree$Maker", "makeEachGraph", "(LAlgebraTree$Node;LAlgebraTree$Rows;)V"⟩ ⟨"AlgebraTree$Maker", "makeEachGraph", "(LAlgebraTree$Node;LAlgebraTree$Rows;)V"⟩) ∈ gv_tbl := gv_in (List.mem_of_getElem? (i := 6) (by decide +kernel)) rfl
theorem mv_1_97 : gv_MV "AlgebraTree$Maker" 97 yX1_makeEachGraph cX1_makeEachGraph 6 none 2 1 := ⟨wd_456, wd_455, wd_6, wd_46, gy_X1_makeEachGraph, Or.inl wd_453, TX1, 7, rfl⟩
theorem wd_462 : (Jvm.Cond.methodLink "AlgebraTree$Maker" (101 : Nat) ({ cls := "AlgebraTree$Maker", name := "makeOverOne", desc := "(LAlgebraTree$Node;LAlgebraTree$Rows;LAlgebraTree$Rows;)V" } : Jvm.MethodName)) ∈ gv_tbl := gv_in (List.mem_of_getElem? (i := 462) (by decide +kernel)) rfl
set_option maxRecDepth 100000 in
theorem wd_465 : (Jvm.Cond.code ({ cls := "AlgebraTree$Maker", name := "makeOverOne", desc := "(LAlgebraTree$Node;LAlgebraTree$Rows;LAlgebraTree$Rows;)V" } : Jvm.MethodName) prog_3_method_7_code (4 : Nat) (Option.none : Option Jvm.ClassFile.FieldType)) ∈ gv_tbl := gv_in (List.mem_of_getElem? (i := 465) rfl) rfl
theorem gy_X1_makeOverOne : gv_y yX1_makeOverOne 3 := ⟨by decide +kernel, by decide +kernel, by decide +kernel⟩
theorem wd_464 : (Jvm.Cond.instanceMethod ({ cls := "AlgebraTree$Maker", name := "makeOverOne", desc := "(LAlgebraTree$Node;LAlgebraTree$Rows;LAlgebraTree$Rows;)V" } : Jvm.MethodName)) ∈ gv_tbl := gv_in (List.mem_of_getElem? (i := 464) (by decide +kernel)) rfl
theorem wd_7 : (Jvm.Cond.selects "AlgebraTree$Maker" ⟨"AlgebraTree$Maker", "makeOverOne", "(LAlgebraTree$Node;LAlgebraTree$Rows;LAlgebraTree$Rows;)V"⟩ ⟨"AlgebraTree$Maker", "makeOverOne", "(LAlgebraTree$Node;LAlgebraTree$Rows;LAlgebraTree$Rows;)V"⟩) ∈ gv_tbl := gv_in (List.mem_of_getElem? (i := 7) (by decide +kernel)) rfl
theorem mv_1_101 : gv_MV "AlgebraTree$Maker" 101 yX1_makeOverOne cX1_makeOverOne 4 none 3 1 := ⟨wd_465, wd_464, wd_7, wd_46, gy_X1_makeOverOne, Or.inl wd_462, TX1, 7, rfl⟩
theorem wd_558 : (Jvm.Cond.methodLink "AlgebraTree$Maker" (105 : Nat) ({ cls := "AlgebraTree$Maker", name := "makeOverTwo", desc := "(LAlgebraTree$Node;LAlgebraTree$Rows;LAlgebraTree$Rows;LAlgebraTree$Rows;)V" } : Jvm.MethodName)) ∈ gv_tbl := gv_in (List.mem_of_getElem? (i := 558) (by decide +kernel)) rfl
set_option maxRecDepth 100000 in
theorem wd_561 : (Jvm.Cond.code ({ cls := "AlgebraTree$Maker", name := "makeOverTwo", desc := "(LAlgebraTree$Node;LAlgebraTree$Rows;LAlgebraTree$Rows;LAlgebraTree$Rows;)V" } : Jvm.MethodName) prog_3_method_8_code (5 : Nat) (Option.none : Option Jvm.ClassFile.FieldType)) ∈ gv_tbl := gv_in (List.mem_of_getElem? (i := 561) rfl) rfl
theorem gy_X1_makeOverTwo : gv_y yX1_makeOverTwo 4 := ⟨by decide +kernel, by decide +kernel, by decide +kernel⟩
theorem wd_560 : (Jvm.Cond.instanceMethod ({ cls := "AlgebraTree$Maker", name := "makeOverTwo", desc := "(LAlgebraTree$Node;LAlgebraTree$Rows;LAlgebraTree$Rows;LAlgebraTree$Rows;)V" } : Jvm.MethodName)) ∈ gv_tbl := gv_in (List.mem_of_getElem? (i := 560) (by decide +kernel)) rfl
theorem wd_14 : (Jvm.Cond.selects "AlgebraTree$Maker" ⟨"AlgebraTree$Maker", "makeOverTwo", "(LAlgebraTree$Node;LAlgebraTree$Rows;LAlgebraTree$Rows;LAlgebraTree$Rows;)V"⟩ ⟨"AlgebraTree$Maker", "makeOverTwo", "(LAlgebraTree$Node;LAlgebraTree$Rows;LAlgebraTree$Rows;LAlgebraTree$Rows;)V"⟩) ∈ gv_tbl := gv_in (List.mem_of_getElem? (i := 14) (by decide +kernel)) rfl
theorem mv_1_105 : gv_MV "AlgebraTree$Maker" 105 yX1_makeOverTwo cX1_makeOverTwo 5 none 4 1 := ⟨wd_561, wd_560, wd_14, wd_46, gy_X1_makeOverTwo, Or.inl wd_558, TX1, 7, rfl⟩
theorem wd_466 : (Jvm.Cond.methodLink "AlgebraTree$Maker" (113 : Nat) ({ cls := "AlgebraTree$Maker", name := "makeFilter", desc := "(LAlgebraTree$Node;LAlgebraTree$Rows;LAlgebraTree$Rows;)V" } : Jvm.MethodName)) ∈ gv_tbl := gv_in (List.mem_of_getElem? (i := 466) (by decide +kernel)) rfl
set_option maxRecDepth 100000 in
theorem wd_469 : (Jvm.Cond.code ({ cls := "AlgebraTree$Maker", name := "makeFilter", desc := "(LAlgebraTree$Node;LAlgebraTree$Rows;LAlgebraTree$Rows;)V" } : Jvm.MethodName) prog_3_method_16_code (5 : Nat) (Option.none : Option Jvm.ClassFile.FieldType)) ∈ gv_tbl := gv_in (List.mem_of_getElem? (i := 469) rfl) rfl
theorem gy_X1_makeFilter : gv_y yX1_makeFilter 3 := ⟨by decide +kernel, by decide +kernel, by decide +kernel⟩
theorem wd_468 : (Jvm.Cond.instanceMethod ({ cls := "AlgebraTree$Maker", name := "makeFilter", desc := "(LAlgebraTree$Node;LAlgebraTree$Rows;LAlgebraTree$Rows;)V" } : Jvm.MethodName)) ∈ gv_tbl := gv_in (List.mem_of_getElem? (i := 468) (by decide +kernel)) rfl
theorem wd_8 : (Jvm.Cond.selects "AlgebraTree$Maker" ⟨"AlgebraTree$Maker", "makeFilter", "(LAlgebraTree$Node;LAlgebraTree$Rows;LAlgebraTree$Rows;)V"⟩ ⟨"AlgebraTree$Maker", "makeFilter", "(LAlgebraTree$Node;LAlgebraTree$Rows;LAlgebraTree$Rows;)V"⟩) ∈ gv_tbl := gv_in (List.mem_of_getElem? (i := 8) (by decide +kernel)) rfl
theorem mv_1_113 : gv_MV "AlgebraTree$Maker" 113 yX1_makeFilter cX1_makeFilter 5 none 3 1 := ⟨wd_469, wd_468, wd_8, wd_46, gy_X1_makeFilter, Or.inl wd_466, TX1, 7, rfl⟩
theorem wd_501 : (Jvm.Cond.methodLink "AlgebraTree$Maker" (116 : Nat) ({ cls := "AlgebraTree$Maker", name := "makeExtension", desc := "(LAlgebraTree$Node;LAlgebraTree$Rows;LAlgebraTree$Rows;)V" } : Jvm.MethodName)) ∈ gv_tbl := gv_in (List.mem_of_getElem? (i := 501) (by decide +kernel)) rfl
set_option maxRecDepth 100000 in
theorem wd_504 : (Jvm.Cond.code ({ cls := "AlgebraTree$Maker", name := "makeExtension", desc := "(LAlgebraTree$Node;LAlgebraTree$Rows;LAlgebraTree$Rows;)V" } : Jvm.MethodName) prog_3_method_17_code (5 : Nat) (Option.none : Option Jvm.ClassFile.FieldType)) ∈ gv_tbl := gv_in (List.mem_of_getElem? (i := 504) rfl) rfl
theorem gy_X1_makeExtension : gv_y yX1_makeExtension 3 := ⟨by decide +kernel, by decide +kernel, by decide +kernel⟩
theorem wd_503 : (Jvm.Cond.instanceMethod ({ cls := "AlgebraTree$Maker", name := "makeExtension", desc := "(LAlgebraTree$Node;LAlgebraTree$Rows;LAlgebraTree$Rows;)V" } : Jvm.MethodName)) ∈ gv_tbl := gv_in (List.mem_of_getElem? (i := 503) (by decide +kernel)) rfl
theorem wd_9 : (Jvm.Cond.selects "AlgebraTree$Maker" ⟨"AlgebraTree$Maker", "makeExtension", "(LAlgebraTree$Node;LAlgebraTree$Rows;LAlgebraTree$Rows;)V"⟩ ⟨"AlgebraTree$Maker", "makeExtension", "(LAlgebraTree$Node;LAlgebraTree$Rows;LAlgebraTree$Rows;)V"⟩) ∈ gv_tbl := gv_in (List.mem_of_getElem? (i := 9) (by decide +kernel)) rfl
theorem mv_1_116 : gv_MV "AlgebraTree$Maker" 116 yX1_makeExtension cX1_makeExtension 5 none 3 1 := ⟨wd_504, wd_503, wd_9, wd_46, gy_X1_makeExtension, Or.inl wd_501, TX1, 7, rfl⟩
theorem wd_505 : (Jvm.Cond.methodLink "AlgebraTree$Maker" (119 : Nat) ({ cls := "AlgebraTree$Maker", name := "makeProjection", desc := "(LAlgebraTree$Node;LAlgebraTree$Rows;LAlgebraTree$Rows;)V" } : Jvm.MethodName)) ∈ gv_tbl := gv_in (List.mem_of_getElem? (i := 505) (by decide +kernel)) rfl
set_option maxRecDepth 100000 in
theorem wd_507 : (Jvm.Cond.code ({ cls := "AlgebraTree$Maker", name := "makeProjection", desc := "(LAlgebraTree$Node;LAlgebraTree$Rows;LAlgebraTree$Rows;)V" } : Jvm.MethodName) prog_3_method_18_code (4 : Nat) (Option.none : Option Jvm.ClassFile.FieldType)) ∈ gv_tbl := gv_in (List.mem_of_getElem? (i := 507) rfl) rfl
theorem gy_X1_makeProjection : gv_y yX1_makeProjection 3 := ⟨by decide +kernel, by decide +kernel, by decide +kernel⟩
theorem wd_506 : (Jvm.Cond.static ({ cls := "AlgebraTree$Maker", name := "makeProjection", desc := "(LAlgebraTree$Node;LAlgebraTree$Rows;LAlgebraTree$Rows;)V" } : Jvm.MethodName)) ∈ gv_tbl := gv_in (List.mem_of_getElem? (i := 506) (by decide +kernel)) rfl
theorem ms_1_119 : gv_MS "AlgebraTree$Maker" 119 yX1_makeProjection cX1_makeProjection 4 none 3 := ⟨wd_507, wd_506, wd_46, gy_X1_makeProjection, Or.inl wd_505⟩
theorem wd_508 : (Jvm.Cond.methodLink "AlgebraTree$Maker" (122 : Nat) ({ cls := "AlgebraTree$Maker", name := "makeDistinct", desc := "(LAlgebraTree$Rows;ILAlgebraTree$Rows;)V" } : Jvm.MethodName)) ∈ gv_tbl := gv_in (List.mem_of_getElem? (i := 508) (by decide +kernel)) rfl
set_option maxRecDepth 100000 in
theorem wd_510 : (Jvm.Cond.code ({ cls := "AlgebraTree$Maker", name := "makeDistinct", desc := "(LAlgebraTree$Rows;ILAlgebraTree$Rows;)V" } : Jvm.MethodName) prog_3_method_19_code (4 : Nat) (Option.none : Option Jvm.ClassFile.FieldType)) ∈ gv_tbl := gv_in (List.mem_of_getElem? (i := 510) rfl) rfl
theorem gy_X1_makeDistinct : gv_y yX1_makeDistinct 3 := ⟨by decide +kernel, by decide +kernel, by decide +kernel⟩
theorem wd_509 : (Jvm.Cond.static ({ cls := "AlgebraTree$Maker", name := "makeDistinct", desc := "(LAlgebraTree$Rows;ILAlgebraTree$Rows;)V" } : Jvm.MethodName)) ∈ gv_tbl := gv_in (List.mem_of_getElem? (i := 509) (by decide +kernel)) rfl
theorem ms_1_122 : gv_MS "AlgebraTree$Maker" 122 yX1_makeDistinct cX1_makeDistinct 4 none 3 := ⟨wd_510, wd_509, wd_46, gy_X1_makeDistinct, Or.inl wd_508⟩
theorem wd_519 : (Jvm.Cond.methodLink "AlgebraTree$Maker" (126 : Nat) ({ cls := "AlgebraTree$Maker", name := "makeSlice", desc := "(LAlgebraTree$Node;LAlgebraTree$Rows;LAlgebraTree$Rows;)V" } : Jvm.MethodName)) ∈ gv_tbl := gv_in (List.mem_of_getElem? (i := 519) (by decide +kernel)) rfl
set_option maxRecDepth 100000 in
theorem wd_521 : (Jvm.Cond.code ({ cls := "AlgebraTree$Maker", name := "makeSlice", desc := "(LAlgebraTree$Node;LAlgebraTree$Rows;LAlgebraTree$Rows;)V" } : Jvm.MethodName) prog_3_method_20_code (4 : Nat) (Option.none : Option Jvm.ClassFile.FieldType)) ∈ gv_tbl := gv_in (List.mem_of_getElem? (i := 521) rfl) rfl
theorem gy_X1_makeSlice : gv_y yX1_makeSlice 3 := ⟨by decide +kernel, by decide +kernel, by decide +kernel⟩
theorem wd_520 : (Jvm.Cond.static ({ cls := "AlgebraTree$Maker", name := "makeSlice", desc := "(LAlgebraTree$Node;LAlgebraTree$Rows;LAlgebraTree$Rows;)V" } : Jvm.MethodName)) ∈ gv_tbl := gv_in (List.mem_of_getElem? (i := 520) (by decide +kernel)) rfl
theorem ms_1_126 : gv_MS "AlgebraTree$Maker" 126 yX1_makeSlice cX1_makeSlice 4 none 3 := ⟨wd_521, wd_520, wd_46, gy_X1_makeSlice, Or.inl wd_519⟩
theorem wd_522 : (Jvm.Cond.methodLink "AlgebraTree$Maker" (129 : Nat) ({ cls := "AlgebraTree$Maker", name := "makeKeys", desc := "(LAlgebraTree$Node;LAlgebraTree$Rows;)V" } : Jvm.MethodName)) ∈ gv_tbl := gv_in (List.mem_of_getElem? (i := 522) (by decide +kernel)) rfl
set_option maxRecDepth 100000 in
theorem wd_525 : (Jvm.Cond.code ({ cls := "AlgebraTree$Maker", name := "makeKeys", desc := "(LAlgebraTree$Node;LAlgebraTree$Rows;)V" } : Jvm.MethodName) prog_3_method_21_code (4 : Nat) (Option.none : Option Jvm.ClassFile.FieldType)) ∈ gv_tbl := gv_in (List.mem_of_getElem? (i := 525) rfl) rfl
theorem gy_X1_makeKeys : gv_y yX1_makeKeys 2 := ⟨by decide +kernel, by decide +kernel, by decide +kernel⟩
theorem wd_524 : (Jvm.Cond.instanceMethod ({ cls := "AlgebraTree$Maker", name := "makeKeys", desc := "(LAlgebraTree$Node;LAlgebraTree$Rows;)V" } : Jvm.MethodName)) ∈ gv_tbl := gv_in (List.mem_of_getElem? (i := 524) (by decide +kernel)) rfl
theorem wd_10 : (Jvm.Cond.selects "AlgebraTree$Maker" ⟨"AlgebraTree$Maker", "makeKeys", "(LAlgebraTree$Node;LAlgebraTree$Rows;)V"⟩ ⟨"AlgebraTree$Maker", "makeKeys", "(LAlgebraTree$Node;LAlgebraTree$Rows;)V"⟩) ∈ gv_tbl := gv_in (List.mem_of_getElem? (i := 10) (by decide +kernel)) rfl
theorem mv_1_129 : gv_MV "AlgebraTree$Maker" 129 yX1_makeKeys cX1_makeKeys 4 none 2 1 := ⟨wd_525, wd_524, wd_10, wd_46, gy_X1_makeKeys, Or.inl wd_522, TX1, 7, rfl⟩
theorem wd_526 : (Jvm.Cond.methodLink "AlgebraTree$Maker" (132 : Nat) ({ cls := "AlgebraTree$Maker", name := "makeOrder", desc := "(LAlgebraTree$Node;LAlgebraTree$Rows;LAlgebraTree$Rows;)V" } : Jvm.MethodName)) ∈ gv_tbl := gv_in (List.mem_of_getElem? (i := 526) (by decide +kernel)) rfl
set_option maxRecDepth 100000 in
theorem wd_529 : (Jvm.Cond.code ({ cls := "AlgebraTree$Maker", name := "makeOrder", desc := "(LAlgebraTree$Node;LAlgebraTree$Rows;LAlgebraTree$Rows;)V" } : Jvm.MethodName) prog_3_method_22_code (6 : Nat) (Option.none : Option Jvm.ClassFile.FieldType)) ∈ gv_tbl := gv_in (List.mem_of_getElem? (i := 529) rfl) rfl
theorem gy_X1_makeOrder : gv_y yX1_makeOrder 3 := ⟨by decide +kernel, by decide +kernel, by decide +kernel⟩
theorem wd_528 : (Jvm.Cond.instanceMethod ({ cls := "AlgebraTree$Maker", name := "makeOrder", desc := "(LAlgebraTree$Node;LAlgebraTree$Rows;LAlgebraTree$Rows;)V" } : Jvm.MethodName)) ∈ gv_tbl := gv_in (List.mem_of_getElem? (i := 528) (by decide +kernel)) rfl
theorem wd_11 : (Jvm.Cond.selects "AlgebraTree$Maker" ⟨"AlgebraTree$Maker", "makeOrder", "(LAlgebraTree$Node;LAlgebraTree$Rows;LAlgebraTree$Rows;)V"⟩ ⟨"AlgebraTree$Maker", "makeOrder", "(LAlgebraTree$Node;LAlgebraTree$Rows;LAlgebraTree$Rows;)V"⟩) ∈ gv_tbl := gv_in (List.mem_of_getElem? (i := 11) (by decide +kernel)) rfl
theorem mv_1_132 : gv_MV "AlgebraTree$Maker" 132 yX1_makeOrder cX1_makeOrder 6 none 3 1 := ⟨wd_529, wd_528, wd_11, wd_46, gy_X1_makeOrder, Or.inl wd_526, TX1, 7, rfl⟩
theorem wd_533 : (Jvm.Cond.methodLink "AlgebraTree$Maker" (138 : Nat) ({ cls := "AlgebraTree$Maker", name := "makeAggregates", desc := "(LAlgebraTree$Node;LAlgebraTree$Rows;LAlgebraTree$Rows;)V" } : Jvm.MethodName)) ∈ gv_tbl := gv_in (List.mem_of_getElem? (i := 533) (by decide +kernel)) rfl
set_option maxRecDepth 100000 in
theorem wd_536 : (Jvm.Cond.code ({ cls := "AlgebraTree$Maker", name := "makeAggregates", desc := "(LAlgebraTree$Node;LAlgebraTree$Rows;LAlgebraTree$Rows;)V" } : Jvm.MethodName) prog_3_method_24_code (5 : Nat) (Option.none : Option Jvm.ClassFile.FieldType)) ∈ gv_tbl := gv_in (List.mem_of_getElem? (i := 536) rfl) rfl
theorem gy_X1_makeAggregates : gv_y yX1_makeAggregates 3 := ⟨by decide +kernel, by decide +kernel, by decide +kernel⟩
theorem wd_535 : (Jvm.Cond.instanceMethod ({ cls := "AlgebraTree$Maker", name := "makeAggregates", desc := "(LAlgebraTree$Node;LAlgebraTree$Rows;LAlgebraTree$Rows;)V" } : Jvm.MethodName)) ∈ gv_tbl := gv_in (List.mem_of_getElem? (i := 535) (by decide +kernel)) rfl
theorem wd_12 : (Jvm.Cond.selects "AlgebraTree$Maker" ⟨"AlgebraTree$Maker", "makeAggregates", "(LAlgebraTree$Node;LAlgebraTree$Rows;LAlgebraTree$Rows;)V"⟩ ⟨"AlgebraTree$Maker", "makeAggregates", "(LAlgebraTree$Node;LAlgebraTree$Rows;LAlgebraTree$Rows;)V"⟩) ∈ gv_tbl := gv_in (List.mem_of_getElem? (i := 12) (by decide +kernel)) rfl
theorem mv_1_138 : gv_MV "AlgebraTree$Maker" 138 yX1_makeAggregates cX1_makeAggregates 5 none 3 1 := ⟨wd_536, wd_535, wd_12, wd_46, gy_X1_makeAggregates, Or.inl wd_533, TX1, 7, rfl⟩
theorem wd_553 : (Jvm.Cond.methodLink "AlgebraTree$Maker" (141 : Nat) ({ cls := "AlgebraTree$Rows", name := "addAll", desc := "(LAlgebraTree$Rows;)V" } : Jvm.MethodName)) ∈ gv_tbl := gv_in (List.mem_of_getElem? (i := 553) (by decide +kernel)) rfl
set_option maxRecDepth 100000 in
theorem wd_556 : (Jvm.Cond.code ({ cls := "AlgebraTree$Rows", name := "addAll", desc := "(LAlgebraTree$Rows;)V" } : Jvm.MethodName) prog_6_method_11_code (3 : Nat) (Option.none : Option Jvm.ClassFile.FieldType)) ∈ gv_tbl := gv_in (List.mem_of_getElem? (i := 556) rfl) rfl
theorem gy_X4_addAll : gv_y yX4_addAll 1 := ⟨by decide +kernel, by decide +kernel, by decide +kernel⟩
theorem wd_554 : (Jvm.Cond.instanceMethod ({ cls := "AlgebraTree$Rows", name := "addAll", desc := "(LAlgebraTree$Rows;)V" } : Jvm.MethodName)) ∈ gv_tbl := gv_in (List.mem_of_getElem? (i := 554) (by decide +kernel)) rfl
theorem wd_555 : (Jvm.Cond.selects "AlgebraTree$Rows" ({ cls := "AlgebraTree$Rows", name := "addAll", desc := "(LAlgebraTree$Rows;)V" } : Jvm.MethodName) ({ cls := "AlgebraTree$Rows", name := "addAll", desc := "(LAlgebraTree$Rows;)V" } : Jvm.MethodName)) ∈ gv_tbl := gv_in (List.mem_of_getElem? (i := 555) (by decide +kernel)) rfl
theorem mv_1_141 : gv_MV "AlgebraTree$Maker" 141 yX4_addAll cX4_addAll 3 none 1 4 := ⟨wd_556, wd_554, wd_555, wd_50, gy_X4_addAll, Or.inl wd_553, TX4, 4, rfl⟩
theorem wd_562 : (Jvm.Cond.methodLink "AlgebraTree$Maker" (145 : Nat) ({ cls := "AlgebraTree$Maker", name := "makeJoin", desc := "(LAlgebraTree$Rows;LAlgebraTree$Rows;LAlgebraTree$Rows;)V" } : Jvm.MethodName)) ∈ gv_tbl := gv_in (List.mem_of_getElem? (i := 562) (by decide +kernel)) rfl
set_option maxRecDepth 100000 in
theorem wd_564 : (Jvm.Cond.code ({ cls := "AlgebraTree$Maker", name := "makeJoin", desc := "(LAlgebraTree$Rows;LAlgebraTree$Rows;LAlgebraTree$Rows;)V" } : Jvm.MethodName) prog_3_method_12_code (5 : Nat) (Option.none : Option Jvm.ClassFile.FieldType)) ∈ gv_tbl := gv_in (List.mem_of_getElem? (i := 564) rfl) rfl
theorem gy_X1_makeJoin : gv_y yX1_makeJoin 3 := ⟨by decide +kernel, by decide +kernel, by decide +kernel⟩
theorem wd_563 : (Jvm.Cond.static ({ cls := "AlgebraTree$Maker", name := "makeJoin", desc := "(LAlgebraTree$Rows;LAlgebraTree$Rows;LAlgebraTree$Rows;)V" } : Jvm.MethodName)) ∈ gv_tbl := gv_in (List.mem_of_getElem? (i := 563) (by decide +kernel)) rfl
theorem ms_1_145 : gv_MS "AlgebraTree$Maker" 145 yX1_makeJoin cX1_makeJoin 5 none 3 := ⟨wd_564, wd_563, wd_46, gy_X1_makeJoin, Or.inl wd_562⟩
theorem wd_573 : (Jvm.Cond.methodLink "AlgebraTree$Maker" (149 : Nat) ({ cls := "AlgebraTree$Maker", name := "makeMinus", desc := "(LAlgebraTree$Rows;LAlgebraTree$Rows;LAlgebraTree$Rows;)V" } : Jvm.MethodName)) ∈ gv_tbl := gv_in (List.mem_of_getElem? (i := 573) (by decide +kernel)) rfl
set_option maxRecDepth 100000 in
theorem wd_575 : (Jvm.Cond.code ({ cls := "AlgebraTree$Maker", name := "makeMinus", desc := "(LAlgebraTree$Rows;LAlgebraTree$Rows;LAlgebraTree$Rows;)V" } : Jvm.MethodName) prog_3_method_13_code (4 : Nat) (Option.none : Option Jvm.ClassFile.FieldType)) ∈ gv_tbl := gv_in (List.mem_of_getElem? (i := 575) rfl) rfl
theorem gy_X1_makeMinus : gv_y yX1_makeMinus 3 := ⟨by decide +kernel, by decide +kernel, by decide +kernel⟩
theorem wd_574 : (Jvm.Cond.static ({ cls := "AlgebraTree$Maker", name := "makeMinus", desc := "(LAlgebraTree$Rows;LAlgebraTree$Rows;LAlgebraTree$Rows;)V" } : Jvm.MethodName)) ∈ gv_tbl := gv_in (List.mem_of_getElem? (i := 574) (by decide +kernel)) rfl
theorem ms_1_149 : gv_MS "AlgebraTree$Maker" 149 yX1_makeMinus cX1_makeMinus 4 none 3 := ⟨wd_575, wd_574, wd_46, gy_X1_makeMinus, Or.inl wd_573⟩
theorem wd_583 : (Jvm.Cond.methodLink "AlgebraTree$Maker" (152 : Nat) ({ cls := "AlgebraTree$Maker", name := "makeLeft", desc := "(LAlgebraTree$Node;LAlgebraTree$Rows;LAlgebraTree$Rows;LAlgebraTree$Rows;)V" } : Jvm.MethodName)) ∈ gv_tbl := gv_in (List.mem_of_getElem? (i := 583) (by decide +kernel)) rfl
set_option maxRecDepth 100000 in
theorem wd_586 : (Jvm.Cond.code ({ cls := "AlgebraTree$Maker", name := "makeLeft", desc := "(LAlgebraTree$Node;LAlgebraTree$Rows;LAlgebraTree$Rows;LAlgebraTree$Rows;)V" } : Jvm.MethodName) prog_3_method_15_code (8 : Nat) (Option.none : Option Jvm.ClassFile.FieldType)) ∈ gv_tbl := gv_in (List.mem_of_getElem? (i := 586) rfl) rfl
theorem gy_X1_makeLeft : gv_y yX1_makeLeft 4 := ⟨by decide +kernel, by decide +kernel, by decide +kernel⟩
theorem wd_585 : (Jvm.Cond.instanceMethod ({ cls := "AlgebraTree$Maker", name := "makeLeft", desc := "(LAlgebraTree$Node;LAlgebraTree$Rows;LAlgebraTree$Rows;LAlgebraTree$Rows;)V" } : Jvm.MethodName)) ∈ gv_tbl := gv_in (List.mem_of_getElem? (i := 585) (by decide +kernel)) rfl
theorem wd_15 : (Jvm.Cond.selects "AlgebraTree$Maker" ⟨"AlgebraTree$Maker", "makeLeft", "(LAlgebraTree$Node;LAlgebraTree$Rows;LAlgebraTree$Rows;LAlgebraTree$Rows;)V"⟩ ⟨"AlgebraTree$Maker", "makeLeft", "(LAlgebraTree$Node;LAlgebraTree$Rows;LAlgebraTree$Rows;LAlgebraTree$Rows;)V"⟩) ∈ gv_tbl := gv_in (List.mem_of_getElem? (i := 15) (by decide +kernel)) rfl
theorem mv_1_152 : gv_MV "AlgebraTree$Maker" 152 yX1_makeLeft cX1_makeLeft 8 none 4 1 := ⟨wd_586, wd_585, wd_15, wd_46, gy_X1_makeLeft, Or.inl wd_583, TX1, 7, rfl⟩
theorem wd_429 : (Jvm.Cond.methodLink "AlgebraTree$Maker" (157 : Nat) ({ cls := "AlgebraTree$Rows", name := "draftOpen", desc := "()V" } : Jvm.MethodName)) ∈ gv_tbl := gv_in (List.mem_of_getElem? (i := 429) (by decide +kernel)) rfl
set_option maxRecDepth 100000 in
theorem wd_432 : (Jvm.Cond.code ({ cls := "AlgebraTree$Rows", name := "draftOpen", desc := "()V" } : Jvm.MethodName) prog_6_method_6_code (2 : Nat) (Option.none : Option Jvm.ClassFile.FieldType)) ∈ gv_tbl := gv_in (List.mem_of_getElem? (i := 432) rfl) rfl
theorem gy_X4_draftOpen : gv_y yX4_draftOpen 0 := ⟨by decide +kernel, by decide +kernel, by decide +kernel⟩
theorem wd_430 : (Jvm.Cond.instanceMethod ({ cls := "AlgebraTree$Rows", name := "draftOpen", desc := "()V" } : Jvm.MethodName)) ∈ gv_tbl := gv_in (List.mem_of_getElem? (i := 430) (by decide +kernel)) rfl
theorem wd_431 : (Jvm.Cond.selects "AlgebraTree$Rows" ({ cls := "AlgebraTree$Rows", name := "draftOpen", desc := "()V" } : Jvm.MethodName) ({ cls := "AlgebraTree$Rows", name := "draftOpen", desc := "()V" } : Jvm.MethodName)) ∈ gv_tbl := gv_in (List.mem_of_getElem? (i := 431) (by decide +kernel)) rfl
theorem mv_1_157 : gv_MV "AlgebraTree$Maker" 157 yX4_draftOpen cX4_draftOpen 2 none 0 4 := ⟨wd_432, wd_430, wd_431, wd_50, gy_X4_draftOpen, Or.inl wd_429, TX4, 4, rfl⟩
theorem wd_438 : (Jvm.Cond.methodLink "AlgebraTree$Maker" (165 : Nat) ({ cls := "AlgebraTree$Maker", name := "fits", desc := "(IILAlgebraTree$Rows;)Z" } : Jvm.MethodName)) ∈ gv_tbl := gv_in (List.mem_of_getElem? (i := 438) (by decide +kernel)) rfl
set_option maxRecDepth 100000 in
theorem wd_440 : (Jvm.Cond.code ({ cls := "AlgebraTree$Maker", name := "fits", desc := "(IILAlgebraTree$Rows;)Z" } : Jvm.MethodName) prog_3_method_10_code (3 : Nat) (Option.some Jvm.ClassFile.FieldType.boolean)) ∈ gv_tbl := gv_in (List.mem_of_getElem? (i := 440) rfl) rfl
theorem gy_X1_fits : gv_y yX1_fits 3 := ⟨by decide +kernel, by decide +kernel, by decide +kernel⟩
theorem wd_439 : (Jvm.Cond.static ({ cls := "AlgebraTree$Maker", name := "fits", desc := "(IILAlgebraTree$Rows;)Z" } : Jvm.MethodName)) ∈ gv_tbl := gv_in (List.mem_of_getElem? (i := 439) (by decide +kernel)) rfl
theorem ms_1_165 : gv_MS "AlgebraTree$Maker" 165 yX1_fits cX1_fits 3 (some .boolean) 3 := ⟨wd_440, wd_439, wd_46, gy_X1_fits, Or.inl wd_438⟩
theorem wd_449 : (Jvm.Cond.methodLink "AlgebraTree$Maker" (179 : Nat) ({ cls := "AlgebraTree$Rows", name := "keepDraft", desc := "()V" } : Jvm.MethodName)) ∈ gv_tbl := gv_in (List.mem_of_getElem? (i := 449) (by decide +kernel)) rfl
set_option maxRecDepth 100000 in
theorem wd_452 : (Jvm.Cond.code ({ cls := "AlgebraTree$Rows", name := "keepDraft", desc := "()V" } : Jvm.MethodName) prog_6_method_10_code (1 : Nat) (Option.none : Option Jvm.ClassFile.FieldType)) ∈ gv_tbl := gv_in (List.mem_of_getElem? (i := 452) rfl) rfl
theorem gy_X4_keepDraft : gv_y yX4_keepDraft 0 := ⟨by decide +kernel, by decide +kernel, by decide +kernel⟩
theorem wd_450 : (Jvm.Cond.instanceMethod ({ cls := "AlgebraTree$Rows", name := "keepDraft", desc := "()V" } : Jvm.MethodName)) ∈ gv_tbl := gv_in (List.mem_of_getElem? (i := 450) (by decide +kernel)) rfl
theorem wd_451 : (Jvm.Cond.selects "AlgebraTree$Rows" ({ cls := "AlgebraTree$Rows", name := "keepDraft", desc := "()V" } : Jvm.MethodName) ({ cls := "AlgebraTree$Rows", name := "keepDraft", desc := "()V" } : Jvm.MethodName)) ∈ gv_tbl := gv_in (List.mem_of_getElem? (i := 451) (by decide +kernel)) rfl
theorem mv_1_179 : gv_MV "AlgebraTree$Maker" 179 yX4_keepDraft cX4_keepDraft 1 none 0 4 := ⟨wd_452, wd_450, wd_451, wd_50, gy_X4_keepDraft, Or.inl wd_449, TX4, 4, rfl⟩
theorem wd_441 : (Jvm.Cond.methodLink "AlgebraTree$Maker" (182 : Nat) ({ cls := "AlgebraTree$Rows", name := "draftTakes", desc := "(II)Z" } : Jvm.MethodName)) ∈ gv_tbl := gv_in (List.mem_of_getElem? (i := 441) (by decide +kernel)) rfl
set_option maxRecDepth 100000 in
theorem wd_444 : (Jvm.Cond.code ({ cls := "AlgebraTree$Rows", name := "draftTakes", desc := "(II)Z" } : Jvm.MethodName) prog_6_method_9_code (3 : Nat) (Option.some Jvm.ClassFile.FieldType.boolean)) ∈ gv_tbl := gv_in (List.mem_of_getElem? (i := 444) rfl) rfl
theorem gy_X4_draftTakes : gv_y yX4_draftTakes 2 := ⟨by decide +kernel, by decide +kernel, by decide +kernel⟩
theorem wd_442 : (Jvm.Cond.instanceMethod ({ cls := "AlgebraTree$Rows", name := "draftTakes", desc := "(II)Z" } : Jvm.MethodName)) ∈ gv_tbl := gv_in (List.mem_of_getElem? (i := 442) (by decide +kernel)) rfl
theorem wd_443 : (Jvm.Cond.selects "AlgebraTree$Rows" ({ cls := "AlgebraTree$Rows", name := "draftTakes", desc := "(II)Z" } : Jvm.MethodName) ({ cls := "AlgebraTree$Rows", name := "draftTakes", desc := "(II)Z" } : Jvm.MethodName)) ∈ gv_tbl := gv_in (List.mem_of_getElem? (i := 443) (by decide +kernel)) rfl
theorem mv_1_182 : gv_MV "AlgebraTree$Maker" 182 yX4_draftTakes cX4_draftTakes 3 (some .boolean) 2 4 := ⟨wd_444, wd_442, wd_443, wd_50, gy_X4_draftTakes, Or.inl wd_441, TX4, 4, rfl⟩
theorem wd_457 : (Jvm.Cond.methodLink "AlgebraTree$Maker" (187 : Nat) ({ cls := "AlgebraTree$Rows", name := "draftOf", desc := "(LAlgebraTree$Rows;II)V" } : Jvm.MethodName)) ∈ gv_tbl := gv_in (List.mem_of_getElem? (i := 457) (by decide +kernel)) rfl
set_option maxRecDepth 100000 in
theorem wd_460 : (Jvm.Cond.code ({ cls := "AlgebraTree$Rows", name := "draftOf", desc := "(LAlgebraTree$Rows;II)V" } : Jvm.MethodName) prog_6_method_7_code (5 : Nat) (Option.none : Option Jvm.ClassFile.FieldType)) ∈ gv_tbl := gv_in (List.mem_of_getElem? (i := 460) rfl) rfl
theorem gy_X4_draftOf : gv_y yX4_draftOf 3 := ⟨by decide +kernel, by decide +kernel, by decide +kernel⟩
theorem wd_458 : (Jvm.Cond.instanceMethod ({ cls := "AlgebraTree$Rows", name := "draftOf", desc := "(LAlgebraTree$Rows;II)V" } : Jvm.MethodName)) ∈ gv_tbl := gv_in (List.mem_of_getElem? (i := 458) (by decide +kernel)) rfl
theorem wd_459 : (Jvm.Cond.selects "AlgebraTree$Rows" ({ cls := "AlgebraTree$Rows", name := "draftOf", desc := "(LAlgebraTree$Rows;II)V" } : Jvm.MethodName) ({ cls := "AlgebraTree$Rows", name := "draftOf", desc := "(LAlgebraTree$Rows;II)V" } : Jvm.MethodName)) ∈ gv_tbl := gv_in (List.mem_of_getElem? (i := 459) (by decide +kernel)) rfl
theorem mv_1_187 : gv_MV "AlgebraTree$Maker" 187 yX4_draftOf cX4_draftOf 5 none 3 4 := ⟨wd_460, wd_458, wd_459, wd_50, gy_X4_draftOf, Or.inl wd_457, TX4, 4, rfl⟩
theorem wd_565 : (Jvm.Cond.methodLink "AlgebraTree$Maker" (194 : Nat) ({ cls := "AlgebraTree$Rows", name := "agrees", desc := "(ILAlgebraTree$Rows;I)Z" } : Jvm.MethodName)) ∈ gv_tbl := gv_in (List.mem_of_getElem? (i := 565) (by decide +kernel)) rfl
set_option maxRecDepth 100000 in
theorem wd_568 : (Jvm.Cond.code ({ cls := "AlgebraTree$Rows", name := "agrees", desc := "(ILAlgebraTree$Rows;I)Z" } : Jvm.MethodName) prog_6_method_13_code (7 : Nat) (Option.some Jvm.ClassFile.FieldType.boolean)) ∈ gv_tbl := gv_in (List.mem_of_getElem? (i := 568) rfl) rfl
theorem gy_X4_agrees : gv_y yX4_agrees 3 := ⟨by decide +kernel, by decide +kernel, by decide +kernel⟩
theorem wd_566 : (Jvm.Cond.instanceMethod ({ cls := "AlgebraTree$Rows", name := "agrees", desc := "(ILAlgebraTree$Rows;I)Z" } : Jvm.MethodName)) ∈ gv_tbl := gv_in (List.mem_of_getElem? (i := 566) (by decide +kernel)) rfl
theorem wd_567 : (Jvm.Cond.selects "AlgebraTree$Rows" ({ cls := "AlgebraTree$Rows", name := "agrees", desc := "(ILAlgebraTree$Rows;I)Z" } : Jvm.MethodName) ({ cls := "AlgebraTree$Rows", name := "agrees", desc := "(ILAlgebraTree$Rows;I)Z" } : Jvm.MethodName)) ∈ gv_tbl := gv_in (List.mem_of_getElem? (i := 567) (by decide +kernel)) rfl
theorem mv_1_194 : gv_MV "AlgebraTree$Maker" 194 yX4_agrees cX4_agrees 7 (some .boolean) 3 4 := ⟨wd_568, wd_566, wd_567, wd_50, gy_X4_agrees, Or.inl wd_565, TX4, 4, rfl⟩
theorem wd_569 : (Jvm.Cond.methodLink "AlgebraTree$Maker" (198 : Nat) ({ cls := "AlgebraTree$Rows", name := "draftTogether", desc := "(LAlgebraTree$Rows;ILAlgebraTree$Rows;I)V" } : Jvm.MethodName)) ∈ gv_tbl := gv_in (List.mem_of_getElem? (i := 569) (by decide +kernel)) rfl
set_option maxRecDepth 100000 in
theorem wd_572 : (Jvm.Cond.code ({ cls := "AlgebraTree$Rows", name := "draftTogether", desc := "(LAlgebraTree$Rows;ILAlgebraTree$Rows;I)V" } : Jvm.MethodName) prog_6_method_8_code (7 : Nat) (Option.none : Option Jvm.ClassFile.FieldType)) ∈ gv_tbl := gv_in (List.mem_of_getElem? (i := 572) rfl) rfl
theorem gy_X4_draftTogether : gv_y yX4_draftTogether 4 := ⟨by decide +kernel, by decide +kernel, by decide +kernel⟩
theorem wd_570 : (Jvm.Cond.instanceMethod ({ cls := "AlgebraTree$Rows", name := "draftTogether", desc := "(LAlgebraTree$Rows;ILAlgebraTree$Rows;I)V" } : Jvm.MethodName)) ∈ gv_tbl := gv_in (List.mem_of_getElem? (i := 570) (by decide +kernel)) rfl
theorem wd_571 : (Jvm.Cond.selects "AlgebraTree$Rows" ({ cls := "AlgebraTree$Rows", name := "draftTogether", desc := "(LAlgebraTree$Rows;ILAlgebraTree$Rows;I)V" } : Jvm.MethodName) ({ cls := "AlgebraTree$Rows", name := "draftTogether", desc := "(LAlgebraTree$Rows;ILAlgebraTree$Rows;I)V" } : Jvm.MethodName)) ∈ gv_tbl := gv_in (List.mem_of_getElem? (i := 571) (by decide +kernel)) rfl
theorem mv_1_198 : gv_MV "AlgebraTree$Maker" 198 yX4_draftTogether cX4_draftTogether 7 none 4 4 := ⟨wd_572, wd_570, wd_571, wd_50, gy_X4_draftTogether, Or.inl wd_569, TX4, 4, rfl⟩
theorem wd_576 : (Jvm.Cond.methodLink "AlgebraTree$Maker" (202 : Nat) ({ cls := "AlgebraTree$Maker", name := "isTakenAway", desc := "(LAlgebraTree$Rows;ILAlgebraTree$Rows;)Z" } : Jvm.MethodName)) ∈ gv_tbl := gv_in (List.mem_of_getElem? (i := 576) (by decide +kernel)) rfl
set_option maxRecDepth 100000 in
theorem wd_578 : (Jvm.Cond.code ({ cls := "AlgebraTree$Maker", name := "isTakenAway", desc := "(LAlgebraTree$Rows;ILAlgebraTree$Rows;)Z" } : Jvm.MethodName) prog_3_method_14_code (4 : Nat) (Option.some Jvm.ClassFile.FieldType.boolean)) ∈ gv_tbl := gv_in (List.mem_of_getElem? (i := 578) rfl) rfl
theorem gy_X1_isTakenAway : gv_y yX1_isTakenAway 3 := ⟨by decide +kernel, by decide +kernel, by decide +kernel⟩
theorem wd_577 : (Jvm.Cond.static ({ cls := "AlgebraTree$Maker", name := "isTakenAway", desc := "(LAlgebraTree$Rows;ILAlgebraTree$Rows;)Z" } : Jvm.MethodName)) ∈ gv_tbl := gv_in (List.mem_of_getElem? (i := 577) (by decide +kernel)) rfl
theorem ms_1_202 : gv_MS "AlgebraTree$Maker" 202 yX1_isTakenAway cX1_isTakenAway 4 (some .boolean) 3 := ⟨wd_578, wd_577, wd_46, gy_X1_isTakenAway, Or.inl wd_576⟩
theorem wd_495 : (Jvm.Cond.methodLink "AlgebraTree$Maker" (206 : Nat) ({ cls := "AlgebraTree$Rows", name := "addRow", desc := "(LAlgebraTree$Rows;I)V" } : Jvm.MethodName)) ∈ gv_tbl := gv_in (List.mem_of_getElem? (i := 495) (by decide +kernel)) rfl
set_option maxRecDepth 100000 in
theorem wd_498 : (Jvm.Cond.code ({ cls := "AlgebraTree$Rows", name := "addRow", desc := "(LAlgebraTree$Rows;I)V" } : Jvm.MethodName) prog_6_method_12_code (3 : Nat) (Option.none : Option Jvm.ClassFile.FieldType)) ∈ gv_tbl := gv_in (List.mem_of_getElem? (i := 498) rfl) rfl
theorem gy_X4_addRow : gv_y yX4_addRow 2 := ⟨by decide +kernel, by decide +kernel, by decide +kernel⟩
theorem wd_496 : (Jvm.Cond.instanceMethod ({ cls := "AlgebraTree$Rows", name := "addRow", desc := "(LAlgebraTree$Rows;I)V" } : Jvm.MethodName)) ∈ gv_tbl := gv_in (List.mem_of_getElem? (i := 496) (by decide +kernel)) rfl
theorem wd_497 : (Jvm.Cond.selects "AlgebraTree$Rows" ({ cls := "AlgebraTree$Rows", name := "addRow", desc := "(LAlgebraTree$Rows;I)V" } : Jvm.MethodName) ({ cls := "AlgebraTree$Rows", name := "addRow", desc := "(LAlgebraTree$Rows;I)V" } : Jvm.MethodName)) ∈ gv_tbl := gv_in (List.mem_of_getElem? (i := 497) (by decide +kernel)) rfl
theorem mv_1_206 : gv_MV "AlgebraTree$Maker" 206 yX4_addRow cX4_addRow 3 none 2 4 := ⟨wd_498, wd_496, wd_497, wd_50, gy_X4_addRow, Or.inl wd_495, TX4, 4, rfl⟩
theorem wd_579 : (Jvm.Cond.methodLink "AlgebraTree$Maker" (210 : Nat) ({ cls := "AlgebraTree$Rows", name := "shares", desc := "(ILAlgebraTree$Rows;I)Z" } : Jvm.MethodName)) ∈ gv_tbl := gv_in (List.mem_of_getElem? (i := 579) (by decide +kernel)) rfl
set_option maxRecDepth 100000 in
theorem wd_582 : (Jvm.Cond.code ({ cls := "AlgebraTree$Rows", name := "shares", desc := "(ILAlgebraTree$Rows;I)Z" } : Jvm.MethodName) prog_6_method_14_code (5 : Nat) (Option.some Jvm.ClassFile.FieldType.boolean)) ∈ gv_tbl := gv_in (List.mem_of_getElem? (i := 582) rfl) rfl
theorem gy_X4_shares : gv_y yX4_shares 3 := ⟨by decide +kernel, by decide +kernel, by decide +kernel⟩
theorem wd_580 : (Jvm.Cond.instanceMethod ({ cls := "AlgebraTree$Rows", name := "shares", desc := "(ILAlgebraTree$Rows;I)Z" } : Jvm.MethodName)) ∈ gv_tbl := gv_in (List.mem_of_getElem? (i := 580) (by decide +kernel)) rfl
theorem wd_581 : (Jvm.Cond.selects "AlgebraTree$Rows" ({ cls := "AlgebraTree$Rows", name := "shares", desc := "(ILAlgebraTree$Rows;I)Z" } : Jvm.MethodName) ({ cls := "AlgebraTree$Rows", name := "shares", desc := "(ILAlgebraTree$Rows;I)Z" } : Jvm.MethodName)) ∈ gv_tbl := gv_in (List.mem_of_getElem? (i := 581) (by decide +kernel)) rfl
theorem mv_1_210 : gv_MV "AlgebraTree$Maker" 210 yX4_shares cX4_shares 5 (some .boolean) 3 4 := ⟨wd_582, wd_580, wd_581, wd_50, gy_X4_shares, Or.inl wd_579, TX4, 4, rfl⟩
theorem wd_470 : (Jvm.Cond.methodLink "AlgebraTree$Maker" (216 : Nat) ({ cls := "AlgebraTree$Expressions", name := "valueOf", desc := "(ILAlgebraTree$Rows;I)I" } : Jvm.MethodName)) ∈ gv_tbl := gv_in (List.mem_of_getElem? (i := 470) (by decide +kernel)) rfl
theorem mv_1_216 : gv_MV "AlgebraTree$Maker" 216 yX0_valueOf cX0_valueOf 5 (some .int) 3 0 := ⟨wd_473, wd_471, wd_472, wd_48, gy_X0_valueOf, Or.inl wd_470, TX0, 6, rfl⟩
theorem wd_494 : (Jvm.Cond.methodLinkNest "AlgebraTree$Maker" (220 : Nat) ({ cls := "AlgebraTree", name := "isTrue", desc := "(I)Z" } : Jvm.MethodName) "AlgebraTree") ∈ gv_tbl := gv_in (List.mem_of_getElem? (i := 494) (by decide +kernel)) rfl
theorem ms_1_220 : gv_MS "AlgebraTree$Maker" 220 yX6_isTrue cX6_isTrue 1 (some .boolean) 1 := ⟨wd_484, wd_483, wd_45, gy_X6_isTrue, Or.inr ⟨"AlgebraTree", wd_494⟩⟩
theorem wd_511 : (Jvm.Cond.methodLink "AlgebraTree$Maker" (224 : Nat) ({ cls := "AlgebraTree$Rows", name := "hasLike", desc := "(LAlgebraTree$Rows;II)Z" } : Jvm.MethodName)) ∈ gv_tbl := gv_in (List.mem_of_getElem? (i := 511) (by decide +kernel)) rfl
set_option maxRecDepth 100000 in
theorem wd_514 : (Jvm.Cond.code ({ cls := "AlgebraTree$Rows", name := "hasLike", desc := "(LAlgebraTree$Rows;II)Z" } : Jvm.MethodName) prog_6_method_16_code (5 : Nat) (Option.some Jvm.ClassFile.FieldType.boolean)) ∈ gv_tbl := gv_in (List.mem_of_getElem? (i := 514) rfl) rfl
theorem gy_X4_hasLike : gv_y yX4_hasLike 3 := ⟨by decide +kernel, by decide +kernel, by decide +kernel⟩
theorem wd_512 : (Jvm.Cond.instanceMethod ({ cls := "AlgebraTree$Rows", name := "hasLike", desc := "(LAlgebraTree$Rows;II)Z" } : Jvm.MethodName)) ∈ gv_tbl := gv_in (List.mem_of_getElem? (i := 512) (by decide +kernel)) rfl
theorem wd_513 : (Jvm.Cond.selects "AlgebraTree$Rows" ({ cls := "AlgebraTree$Rows", name := "hasLike", desc := "(LAlgebraTree$Rows;II)Z" } : Jvm.MethodName) ({ cls := "AlgebraTree$Rows", name := "hasLike", desc := "(LAlgebraTree$Rows;II)Z" } : Jvm.MethodName)) ∈ gv_tbl := gv_in (List.mem_of_getElem? (i := 513) (by decide +kernel)) rfl
theorem mv_1_224 : gv_MV "AlgebraTree$Maker" 224 yX4_hasLike cX4_hasLike 5 (some .boolean) 3 4 := ⟨wd_514, wd_512, wd_513, wd_50, gy_X4_hasLike, Or.inl wd_511, TX4, 4, rfl⟩
theorem wd_530 : (Jvm.Cond.methodLink "AlgebraTree$Maker" (237 : Nat) ({ cls := "AlgebraTree$Maker", name := "goesBefore", desc := "(IIZ)Z" } : Jvm.MethodName)) ∈ gv_tbl := gv_in (List.mem_of_getElem? (i := 530) (by decide +kernel)) rfl
set_option maxRecDepth 100000 in
theorem wd_532 : (Jvm.Cond.code ({ cls := "AlgebraTree$Maker", name := "goesBefore", desc := "(IIZ)Z" } : Jvm.MethodName) prog_3_method_23_code (3 : Nat) (Option.some Jvm.ClassFile.FieldType.boolean)) ∈ gv_tbl := gv_in (List.mem_of_getElem? (i := 532) rfl) rfl
theorem gy_X1_goesBefore : gv_y yX1_goesBefore 3 := ⟨by decide +kernel, by decide +kernel, by decide +kernel⟩
theorem wd_531 : (Jvm.Cond.static ({ cls := "AlgebraTree$Maker", name := "goesBefore", desc := "(IIZ)Z" } : Jvm.MethodName)) ∈ gv_tbl := gv_in (List.mem_of_getElem? (i := 531) (by decide +kernel)) rfl
theorem ms_1_237 : gv_MS "AlgebraTree$Maker" 237 yX1_goesBefore cX1_goesBefore 3 (some .boolean) 3 := ⟨wd_532, wd_531, wd_46, gy_X1_goesBefore, Or.inl wd_530⟩
theorem wd_537 : (Jvm.Cond.methodLink "AlgebraTree$Maker" (241 : Nat) ({ cls := "AlgebraTree$Maker", name := "aggregate", desc := "(LAlgebraTree$Node;LAlgebraTree$Rows;LAlgebraTree$Rows;I)I" } : Jvm.MethodName)) ∈ gv_tbl := gv_in (List.mem_of_getElem? (i := 537) (by decide +kernel)) rfl
set_option maxRecDepth 100000 in
theorem wd_540 : (Jvm.Cond.code ({ cls := "AlgebraTree$Maker", name := "aggregate", desc := "(LAlgebraTree$Node;LAlgebraTree$Rows;LAlgebraTree$Rows;I)I" } : Jvm.MethodName) prog_3_method_25_code (12 : Nat) (Option.some Jvm.ClassFile.FieldType.int)) ∈ gv_tbl := gv_in (List.mem_of_getElem? (i := 540) rfl) rfl
theorem gy_X1_aggregate : gv_y yX1_aggregate 4 := ⟨by decide +kernel, by decide +kernel, by decide +kernel⟩
theorem wd_539 : (Jvm.Cond.instanceMethod ({ cls := "AlgebraTree$Maker", name := "aggregate", desc := "(LAlgebraTree$Node;LAlgebraTree$Rows;LAlgebraTree$Rows;I)I" } : Jvm.MethodName)) ∈ gv_tbl := gv_in (List.mem_of_getElem? (i := 539) (by decide +kernel)) rfl
theorem wd_13 : (Jvm.Cond.selects "AlgebraTree$Maker" ⟨"AlgebraTree$Maker", "aggregate", "(LAlgebraTree$Node;LAlgebraTree$Rows;LAlgebraTree$Rows;I)I"⟩ ⟨"AlgebraTree$Maker", "aggregate", "(LAlgebraTree$Node;LAlgebraTree$Rows;LAlgebraTree$Rows;I)I"⟩) ∈ gv_tbl := gv_in (List.mem_of_getElem? (i := 13) (by decide +kernel)) rfl
theorem mv_1_241 : gv_MV "AlgebraTree$Maker" 241 yX1_aggregate cX1_aggregate 12 (some .int) 4 1 := ⟨wd_540, wd_539, wd_13, wd_46, gy_X1_aggregate, Or.inl wd_537, TX1, 7, rfl⟩
theorem wd_552 : (Jvm.Cond.methodLink "AlgebraTree$Maker" (245 : Nat) ({ cls := "AlgebraTree$Rows", name := "put", desc := "(III)V" } : Jvm.MethodName)) ∈ gv_tbl := gv_in (List.mem_of_getElem? (i := 552) (by decide +kernel)) rfl
set_option maxRecDepth 100000 in
theorem wd_437 : (Jvm.Cond.code ({ cls := "AlgebraTree$Rows", name := "put", desc := "(III)V" } : Jvm.MethodName) prog_6_method_3_code (4 : Nat) (Option.none : Option Jvm.ClassFile.FieldType)) ∈ gv_tbl := gv_in (List.mem_of_getElem? (i := 437) rfl) rfl
theorem gy_X4_put : gv_y yX4_put 3 := ⟨by decide +kernel, by decide +kernel, by decide +kernel⟩
theorem wd_435 : (Jvm.Cond.instanceMethod ({ cls := "AlgebraTree$Rows", name := "put", desc := "(III)V" } : Jvm.MethodName)) ∈ gv_tbl := gv_in (List.mem_of_getElem? (i := 435) (by decide +kernel)) rfl
theorem wd_436 : (Jvm.Cond.selects "AlgebraTree$Rows" ({ cls := "AlgebraTree$Rows", name := "put", desc := "(III)V" } : Jvm.MethodName) ({ cls := "AlgebraTree$Rows", name := "put", desc := "(III)V" } : Jvm.MethodName)) ∈ gv_tbl := gv_in (List.mem_of_getElem? (i := 436) (by decide +kernel)) rfl
theorem mv_1_245 : gv_MV "AlgebraTree$Maker" 245 yX4_put cX4_put 4 none 3 4 := ⟨wd_437, wd_435, wd_436, wd_50, gy_X4_put, Or.inl wd_552, TX4, 4, rfl⟩
theorem wd_543 : (Jvm.Cond.methodLink "AlgebraTree$Maker" (251 : Nat) ({ cls := "AlgebraTree$Rows", name := "isLike", desc := "(ILAlgebraTree$Rows;II)Z" } : Jvm.MethodName)) ∈ gv_tbl := gv_in (List.mem_of_getElem? (i := 543) (by decide +kernel)) rfl
set_option maxRecDepth 100000 in
theorem wd_518 : (Jvm.Cond.code ({ cls := "AlgebraTree$Rows", name := "isLike", desc := "(ILAlgebraTree$Rows;II)Z" } : Jvm.MethodName) prog_6_method_15_code (6 : Nat) (Option.some Jvm.ClassFile.FieldType.boolean)) ∈ gv_tbl := gv_in (List.mem_of_getElem? (i := 518) rfl) rfl
theorem gy_X4_isLike : gv_y yX4_isLike 4 := ⟨by decide +kernel, by decide +kernel, by decide +kernel⟩
theorem wd_516 : (Jvm.Cond.instanceMethod ({ cls := "AlgebraTree$Rows", name := "isLike", desc := "(ILAlgebraTree$Rows;II)Z" } : Jvm.MethodName)) ∈ gv_tbl := gv_in (List.mem_of_getElem? (i := 516) (by decide +kernel)) rfl
theorem wd_517 : (Jvm.Cond.selects "AlgebraTree$Rows" ({ cls := "AlgebraTree$Rows", name := "isLike", desc := "(ILAlgebraTree$Rows;II)Z" } : Jvm.MethodName) ({ cls := "AlgebraTree$Rows", name := "isLike", desc := "(ILAlgebraTree$Rows;II)Z" } : Jvm.MethodName)) ∈ gv_tbl := gv_in (List.mem_of_getElem? (i := 517) (by decide +kernel)) rfl
theorem mv_1_251 : gv_MV "AlgebraTree$Maker" 251 yX4_isLike cX4_isLike 6 (some .boolean) 4 4 := ⟨wd_518, wd_516, wd_517, wd_50, gy_X4_isLike, Or.inl wd_543, TX4, 4, rfl⟩
theorem wd_551 : (Jvm.Cond.methodLinkNest "AlgebraTree$Maker" (267 : Nat) ({ cls := "AlgebraTree", name := "valueOrError", desc := "(J)I" } : Jvm.MethodName) "AlgebraTree") ∈ gv_tbl := gv_in (List.mem_of_getElem? (i := 551) (by decide +kernel)) rfl
theorem ms_1_267 : gv_MS "AlgebraTree$Maker" 267 yX6_valueOrError cX6_valueOrError 2 (some .int) 1 := ⟨wd_492, wd_491, wd_45, gy_X6_valueOrError, Or.inr ⟨"AlgebraTree", wd_551⟩⟩
theorem wd_345 : (Jvm.Cond.methodLinkNest "AlgebraTree$Nodes" (21 : Nat) ({ cls := "AlgebraTree", name := "isBelow", desc := "(II)Z" } : Jvm.MethodName) "AlgebraTree") ∈ gv_tbl := gv_in (List.mem_of_getElem? (i := 345) (by decide +kernel)) rfl
theorem ms_3_21 : gv_MS "AlgebraTree$Nodes" 21 yX6_isBelow cX6_isBelow 2 (some .boolean) 2 := ⟨wd_210, wd_209, wd_45, gy_X6_isBelow, Or.inr ⟨"AlgebraTree", wd_345⟩⟩
theorem wd_332 : (Jvm.Cond.methodLink "AlgebraTree$Nodes" (25 : Nat) ({ cls := "AlgebraTree$Nodes", name := "isFull", desc := "()Z" } : Jvm.MethodName)) ∈ gv_tbl := gv_in (List.mem_of_getElem? (i := 332) (by decide +kernel)) rfl
theorem mv_3_25 : gv_MV "AlgebraTree$Nodes" 25 yX3_isFull cX3_isFull 1 (some .boolean) 0 3 := ⟨wd_261, wd_259, wd_260, wd_49, gy_X3_isFull, Or.inl wd_332, TX3, 2, rfl⟩
theorem wd_341 : (Jvm.Cond.methodLink "AlgebraTree$Nodes" (29 : Nat) ({ cls := "AlgebraTree$Nodes", name := "has", desc := "(I)Z" } : Jvm.MethodName)) ∈ gv_tbl := gv_in (List.mem_of_getElem? (i := 341) (by decide +kernel)) rfl
theorem mv_3_29 : gv_MV "AlgebraTree$Nodes" 29 yX3_has cX3_has 2 (some .boolean) 1 3 := ⟨wd_344, wd_342, wd_343, wd_49, gy_X3_has, Or.inl wd_341, TX3, 2, rfl⟩
theorem wd_434 : (Jvm.Cond.methodLink "AlgebraTree$Rows" (33 : Nat) ({ cls := "AlgebraTree$Rows", name := "put", desc := "(III)V" } : Jvm.MethodName)) ∈ gv_tbl := gv_in (List.mem_of_getElem? (i := 434) (by decide +kernel)) rfl
theorem mv_4_33 : gv_MV "AlgebraTree$Rows" 33 yX4_put cX4_put 4 none 3 4 := ⟨wd_437, wd_435, wd_436, wd_50, gy_X4_put, Or.inl wd_434, TX4, 4, rfl⟩
theorem wd_461 : (Jvm.Cond.methodLinkNest "AlgebraTree$Rows" (37 : Nat) ({ cls := "AlgebraTree", name := "isInSet", desc := "(II)Z" } : Jvm.MethodName) "AlgebraTree") ∈ gv_tbl := gv_in (List.mem_of_getElem? (i := 461) (by decide +kernel)) rfl
theorem ms_4_37 : gv_MS "AlgebraTree$Rows" 37 yX6_isInSet cX6_isInSet 2 (some .boolean) 2 := ⟨wd_384, wd_383, wd_45, gy_X6_isInSet, Or.inr ⟨"AlgebraTree", wd_461⟩⟩
theorem wd_445 : (Jvm.Cond.methodLink "AlgebraTree$Rows" (41 : Nat) ({ cls := "AlgebraTree$Rows", name := "at", desc := "(II)I" } : Jvm.MethodName)) ∈ gv_tbl := gv_in (List.mem_of_getElem? (i := 445) (by decide +kernel)) rfl
theorem mv_4_41 : gv_MV "AlgebraTree$Rows" 41 yX4_at cX4_at 3 (some .int) 2 4 := ⟨wd_448, wd_446, wd_447, wd_50, gy_X4_at, Or.inl wd_445, TX4, 4, rfl⟩
theorem wd_557 : (Jvm.Cond.methodLink "AlgebraTree$Rows" (45 : Nat) ({ cls := "AlgebraTree$Rows", name := "addRow", desc := "(LAlgebraTree$Rows;I)V" } : Jvm.MethodName)) ∈ gv_tbl := gv_in (List.mem_of_getElem? (i := 557) (by decide +kernel)) rfl
theorem mv_4_45 : gv_MV "AlgebraTree$Rows" 45 yX4_addRow cX4_addRow 3 none 2 4 := ⟨wd_498, wd_496, wd_497, wd_50, gy_X4_addRow, Or.inl wd_557, TX4, 4, rfl⟩
theorem wd_499 : (Jvm.Cond.methodLink "AlgebraTree$Rows" (49 : Nat) ({ cls := "AlgebraTree$Rows", name := "draftOf", desc := "(LAlgebraTree$Rows;II)V" } : Jvm.MethodName)) ∈ gv_tbl := gv_in (List.mem_of_getElem? (i := 499) (by decide +kernel)) rfl
theorem mv_4_49 : gv_MV "AlgebraTree$Rows" 49 yX4_draftOf cX4_draftOf 5 none 3 4 := ⟨wd_460, wd_458, wd_459, wd_50, gy_X4_draftOf, Or.inl wd_499, TX4, 4, rfl⟩
theorem wd_500 : (Jvm.Cond.methodLink "AlgebraTree$Rows" (53 : Nat) ({ cls := "AlgebraTree$Rows", name := "keepDraft", desc := "()V" } : Jvm.MethodName)) ∈ gv_tbl := gv_in (List.mem_of_getElem? (i := 500) (by decide +kernel)) rfl
theorem mv_4_53 : gv_MV "AlgebraTree$Rows" 53 yX4_keepDraft cX4_keepDraft 1 none 0 4 := ⟨wd_452, wd_450, wd_451, wd_50, gy_X4_keepDraft, Or.inl wd_500, TX4, 4, rfl⟩
theorem wd_515 : (Jvm.Cond.methodLink "AlgebraTree$Rows" (56 : Nat) ({ cls := "AlgebraTree$Rows", name := "isLike", desc := "(ILAlgebraTree$Rows;II)Z" } : Jvm.MethodName)) ∈ gv_tbl := gv_in (List.mem_of_getElem? (i := 515) (by decide +kernel)) rfl
theorem mv_4_56 : gv_MV "AlgebraTree$Rows" 56 yX4_isLike cX4_isLike 6 (some .boolean) 4 4 := ⟨wd_518, wd_516, wd_517, wd_50, gy_X4_isLike, Or.inl wd_515, TX4, 4, rfl⟩
theorem wd_620 : (Jvm.Cond.methodLink "AlgebraTree$Rows" (60 : Nat) ({ cls := "AlgebraTree$Rows", name := "countLike", desc := "(LAlgebraTree$Rows;I)I" } : Jvm.MethodName)) ∈ gv_tbl := gv_in (List.mem_of_getElem? (i := 620) (by decide +kernel)) rfl
theorem mv_4_60 : gv_MV "AlgebraTree$Rows" 60 yX4_countLike cX4_countLike 5 (some .int) 2 4 := ⟨wd_611, wd_609, wd_610, wd_50, gy_X4_countLike, Or.inl wd_620, TX4, 4, rfl⟩
theorem wd_218 : (Jvm.Cond.methodLink "AlgebraTree$Triples" (28 : Nat) ({ cls := "AlgebraTree$Triples", name := "contains", desc := "(IIII)Z" } : Jvm.MethodName)) ∈ gv_tbl := gv_in (List.mem_of_getElem? (i := 218) (by decide +kernel)) rfl
set_option maxRecDepth 100000 in
theorem wd_221 : (Jvm.Cond.code ({ cls := "AlgebraTree$Triples", name := "contains", desc := "(IIII)Z" } : Jvm.MethodName) prog_7_method_3_code (6 : Nat) (Option.some Jvm.ClassFile.FieldType.boolean)) ∈ gv_tbl := gv_in (List.mem_of_getElem? (i := 221) rfl) rfl
theorem gy_X5_contains : gv_y yX5_contains 4 := ⟨by decide +kernel, by decide +kernel, by decide +kernel⟩
theorem wd_220 : (Jvm.Cond.instanceMethod ({ cls := "AlgebraTree$Triples", name := "contains", desc := "(IIII)Z" } : Jvm.MethodName)) ∈ gv_tbl := gv_in (List.mem_of_getElem? (i := 220) (by decide +kernel)) rfl
theorem wd_0 : (Jvm.Cond.selects "AlgebraTree$Triples" ⟨"AlgebraTree$Triples", "contains", "(IIII)Z"⟩ ⟨"AlgebraTree$Triples", "contains", "(IIII)Z"⟩) ∈ gv_tbl := gv_in (List.mem_of_getElem? (i := 0) (by decide +kernel)) rfl
theorem mv_5_28 : gv_MV "AlgebraTree$Triples" 28 yX5_contains cX5_contains 6 (some .boolean) 4 5 := ⟨wd_221, wd_220, wd_0, wd_47, gy_X5_contains, Or.inl wd_218, TX5, 5, rfl⟩
theorem wd_57 : (Jvm.Cond.methodLink "AlgebraTreeLaw" (9 : Nat) ({ cls := "AlgebraTree", name := "<init>", desc := "()V" } : Jvm.MethodName)) ∈ gv_tbl := gv_in (List.mem_of_getElem? (i := 57) (by decide +kernel)) rfl
set_option maxRecDepth 100000 in
theorem wd_59 : (Jvm.Cond.code ({ cls := "AlgebraTree", name := "<init>", desc := "()V" } : Jvm.MethodName) prog_1_method_1_code (1 : Nat) (Option.none : Option Jvm.ClassFile.FieldType)) ∈ gv_tbl := gv_in (List.mem_of_getElem? (i := 59) rfl) rfl
theorem gy_X6_init : gv_y yX6_init 0 := ⟨by decide +kernel, by decide +kernel, by decide +kernel⟩
theorem wd_58 : (Jvm.Cond.instanceMethod ({ cls := "AlgebraTree", name := "<init>", desc := "()V" } : Jvm.MethodName)) ∈ gv_tbl := gv_in (List.mem_of_getElem? (i := 58) (by decide +kernel)) rfl
theorem mi_L_9 : gv_MI "AlgebraTreeLaw" 9 yX6_init cX6_init 1 0 := ⟨wd_59, rfl, wd_58, wd_45, gy_X6_init, Or.inl wd_57⟩
theorem wd_623 : (Jvm.Cond.methodLink "AlgebraTreeLaw" (12 : Nat) ({ cls := "AlgebraTreeModel", name := "<init>", desc := "()V" } : Jvm.MethodName)) ∈ gv_tbl := gv_in (List.mem_of_getElem? (i := 623) (by decide +kernel)) rfl
set_option maxRecDepth 100000 in
theorem wd_625 : (Jvm.Cond.code ({ cls := "AlgebraTreeModel", name := "<init>", desc := "()V" } : Jvm.MethodName) prog_9_method_1_code (1 : Nat) (Option.none : Option Jvm.ClassFile.FieldType)) ∈ gv_tbl := gv_in (List.mem_of_getElem? (i := 625) rfl) rfl
theorem wd_51 : (Jvm.Cond.initialized "AlgebraTreeModel") ∈ gv_tbl := gv_in (List.mem_of_getElem? (i := 51) (by decide +kernel)) rfl
theorem gy_X7_init : gv_y yX7_init 0 := ⟨by decide +kernel, by decide +kernel, by decide +kernel⟩
theorem wd_624 : (Jvm.Cond.instanceMethod ({ cls := "AlgebraTreeModel", name := "<init>", desc := "()V" } : Jvm.MethodName)) ∈ gv_tbl := gv_in (List.mem_of_getElem? (i := 624) (by decide +kernel)) rfl
theorem mi_L_12 : gv_MI "AlgebraTreeLaw" 12 yX7_init cX7_init 1 0 := ⟨wd_625, rfl, wd_624, wd_51, gy_X7_init, Or.inl wd_623⟩
theorem wd_204 : (Jvm.Cond.methodLink "AlgebraTreeLaw" (13 : Nat) ({ cls := "AlgebraTree", name := "triple", desc := "(IIII)I" } : Jvm.MethodName)) ∈ gv_tbl := gv_in (List.mem_of_getElem? (i := 204) (by decide +kernel)) rfl
set_option maxRecDepth 100000 in
theorem wd_207 : (Jvm.Cond.code ({ cls := "AlgebraTree", name := "triple", desc := "(IIII)I" } : Jvm.MethodName) prog_1_method_2_code (5 : Nat) (Option.some Jvm.ClassFile.FieldType.int)) ∈ gv_tbl := gv_in (List.mem_of_getElem? (i := 207) rfl) rfl
theorem gy_X6_triple : gv_y yX6_triple 4 := ⟨by decide +kernel, by decide +kernel, by decide +kernel⟩
theorem wd_205 : (Jvm.Cond.instanceMethod ({ cls := "AlgebraTree", name := "triple", desc := "(IIII)I" } : Jvm.MethodName)) ∈ gv_tbl := gv_in (List.mem_of_getElem? (i := 205) (by decide +kernel)) rfl
theorem wd_206 : (Jvm.Cond.selects "AlgebraTree" ({ cls := "AlgebraTree", name := "triple", desc := "(IIII)I" } : Jvm.MethodName) ({ cls := "AlgebraTree", name := "triple", desc := "(IIII)I" } : Jvm.MethodName)) ∈ gv_tbl := gv_in (List.mem_of_getElem? (i := 206) (by decide +kernel)) rfl
theorem mv_L_13 : gv_MV "AlgebraTreeLaw" 13 yX6_triple cX6_triple 5 (some .int) 4 6 := ⟨wd_207, wd_205, wd_206, wd_45, gy_X6_triple, Or.inl wd_204, TX6, 5, rfl⟩
theorem wd_674 : (Jvm.Cond.methodLink "AlgebraTreeLaw" (17 : Nat) ({ cls := "AlgebraTreeModel", name := "triple", desc := "(IIII)I" } : Jvm.MethodName)) ∈ gv_tbl := gv_in (List.mem_of_getElem? (i := 674) (by decide +kernel)) rfl
set_option maxRecDepth 100000 in
theorem wd_677 : (Jvm.Cond.code ({ cls := "AlgebraTreeModel", name := "triple", desc := "(IIII)I" } : Jvm.MethodName) prog_9_method_3_code (6 : Nat) (Option.some Jvm.ClassFile.FieldType.int)) ∈ gv_tbl := gv_in (List.mem_of_getElem? (i := 677) rfl) rfl
theorem gy_X7_triple : gv_y yX7_triple 4 := ⟨by decide +kernel, by decide +kernel, by decide +kernel⟩
theorem wd_675 : (Jvm.Cond.instanceMethod ({ cls := "AlgebraTreeModel", name := "triple", desc := "(IIII)I" } : Jvm.MethodName)) ∈ gv_tbl := gv_in (List.mem_of_getElem? (i := 675) (by decide +kernel)) rfl
theorem wd_676 : (Jvm.Cond.selects "AlgebraTreeModel" ({ cls := "AlgebraTreeModel", name := "triple", desc := "(IIII)I" } : Jvm.MethodName) ({ cls := "AlgebraTreeModel", name := "triple", desc := "(IIII)I" } : Jvm.MethodName)) ∈ gv_tbl := gv_in (List.mem_of_getElem? (i := 676) (by decide +kernel)) rfl
theorem mv_L_17 : gv_MV "AlgebraTreeLaw" 17 yX7_triple cX7_triple 6 (some .int) 4 7 := ⟨wd_677, wd_675, wd_676, wd_51, gy_X7_triple, Or.inl wd_674, TX7, 15, rfl⟩
theorem wd_222 : (Jvm.Cond.methodLink "AlgebraTreeLaw" (18 : Nat) ({ cls := "AlgebraTree", name := "leaf", desc := "(II)I" } : Jvm.MethodName)) ∈ gv_tbl := gv_in (List.mem_of_getElem? (i := 222) (by decide +kernel)) rfl
set_option maxRecDepth 100000 in
theorem wd_225 : (Jvm.Cond.code ({ cls := "AlgebraTree", name := "leaf", desc := "(II)I" } : Jvm.MethodName) prog_1_method_3_code (4 : Nat) (Option.some Jvm.ClassFile.FieldType.int)) ∈ gv_tbl := gv_in (List.mem_of_getElem? (i := 225) rfl) rfl
theorem gy_X6_leaf : gv_y yX6_leaf 2 := ⟨by decide +kernel, by decide +kernel, by decide +kernel⟩
theorem wd_223 : (Jvm.Cond.instanceMethod ({ cls := "AlgebraTree", name := "leaf", desc := "(II)I" } : Jvm.MethodName)) ∈ gv_tbl := gv_in (List.mem_of_getElem? (i := 223) (by decide +kernel)) rfl
theorem wd_224 : (Jvm.Cond.selects "AlgebraTree" ({ cls := "AlgebraTree", name := "leaf", desc := "(II)I" } : Jvm.MethodName) ({ cls := "AlgebraTree", name := "leaf", desc := "(II)I" } : Jvm.MethodName)) ∈ gv_tbl := gv_in (List.mem_of_getElem? (i := 224) (by decide +kernel)) rfl
theorem mv_L_18 : gv_MV "AlgebraTreeLaw" 18 yX6_leaf cX6_leaf 4 (some .int) 2 6 := ⟨wd_225, wd_223, wd_224, wd_45, gy_X6_leaf, Or.inl wd_222, TX6, 5, rfl⟩
theorem wd_681 : (Jvm.Cond.methodLink "AlgebraTreeLaw" (22 : Nat) ({ cls := "AlgebraTreeModel", name := "leaf", desc := "(II)I" } : Jvm.MethodName)) ∈ gv_tbl := gv_in (List.mem_of_getElem? (i := 681) (by decide +kernel)) rfl
set_option maxRecDepth 100000 in
theorem wd_684 : (Jvm.Cond.code ({ cls := "AlgebraTreeModel", name := "leaf", desc := "(II)I" } : Jvm.MethodName) prog_9_method_7_code (4 : Nat) (Option.some Jvm.ClassFile.FieldType.int)) ∈ gv_tbl := gv_in (List.mem_of_getElem? (i := 684) rfl) rfl
theorem gy_X7_leaf : gv_y yX7_leaf 2 := ⟨by decide +kernel, by decide +kernel, by decide +kernel⟩
theorem wd_682 : (Jvm.Cond.instanceMethod ({ cls := "AlgebraTreeModel", name := "leaf", desc := "(II)I" } : Jvm.MethodName)) ∈ gv_tbl := gv_in (List.mem_of_getElem? (i := 682) (by decide +kernel)) rfl
theorem wd_683 : (Jvm.Cond.selects "AlgebraTreeModel" ({ cls := "AlgebraTreeModel", name := "leaf", desc := "(II)I" } : Jvm.MethodName) ({ cls := "AlgebraTreeModel", name := "leaf", desc := "(II)I" } : Jvm.MethodName)) ∈ gv_tbl := gv_in (List.mem_of_getElem? (i := 683) (by decide +kernel)) rfl
theorem mv_L_22 : gv_MV "AlgebraTreeLaw" 22 yX7_leaf cX7_leaf 4 (some .int) 2 7 := ⟨wd_684, wd_682, wd_683, wd_51, gy_X7_leaf, Or.inl wd_681, TX7, 15, rfl⟩
theorem wd_241 : (Jvm.Cond.methodLink "AlgebraTreeLaw" (23 : Nat) ({ cls := "AlgebraTree", name := "apply", desc := "(III)I" } : Jvm.MethodName)) ∈ gv_tbl := gv_in (List.mem_of_getElem? (i := 241) (by decide +kernel)) rfl
set_option maxRecDepth 100000 in
theorem wd_244 : (Jvm.Cond.code ({ cls := "AlgebraTree", name := "apply", desc := "(III)I" } : Jvm.MethodName) prog_1_method_4_code (4 : Nat) (Option.some Jvm.ClassFile.FieldType.int)) ∈ gv_tbl := gv_in (List.mem_of_getElem? (i := 244) rfl) rfl
theorem gy_X6_apply : gv_y yX6_apply 3 := ⟨by decide +kernel, by decide +kernel, by decide +kernel⟩
theorem wd_242 : (Jvm.Cond.instanceMethod ({ cls := "AlgebraTree", name := "apply", desc := "(III)I" } : Jvm.MethodName)) ∈ gv_tbl := gv_in (List.mem_of_getElem? (i := 242) (by decide +kernel)) rfl
theorem wd_243 : (Jvm.Cond.selects "AlgebraTree" ({ cls := "AlgebraTree", name := "apply", desc := "(III)I" } : Jvm.MethodName) ({ cls := "AlgebraTree", name := "apply", desc := "(III)I" } : Jvm.MethodName)) ∈ gv_tbl := gv_in (List.mem_of_getElem? (i := 243) (by decide +kernel)) rfl
theorem mv_L_23 : gv_MV "AlgebraTreeLaw" 23 yX6_apply cX6_apply 4 (some .int) 3 6 := ⟨wd_244, wd_242, wd_243, wd_45, gy_X6_apply, Or.inl wd_241, TX6, 5, rfl⟩
theorem wd_694 : (Jvm.Cond.methodLink "AlgebraTreeLaw" (27 : Nat) ({ cls := "AlgebraTreeModel", name := "apply", desc := "(III)I" } : Jvm.MethodName)) ∈ gv_tbl := gv_in (List.mem_of_getElem? (i := 694) (by decide +kernel)) rfl
set_option maxRecDepth 100000 in
theorem wd_697 : (Jvm.Cond.code ({ cls := "AlgebraTreeModel", name := "apply", desc := "(III)I" } : Jvm.MethodName) prog_9_method_8_code (5 : Nat) (Option.some Jvm.ClassFile.FieldType.int)) ∈ gv_tbl := gv_in (List.mem_of_getElem? (i := 697) rfl) rfl
theorem gy_X7_apply : gv_y yX7_apply 3 := ⟨by decide +kernel, by decide +kernel, by decide +kernel⟩
theorem wd_695 : (Jvm.Cond.instanceMethod ({ cls := "AlgebraTreeModel", name := "apply", desc := "(III)I" } : Jvm.MethodName)) ∈ gv_tbl := gv_in (List.mem_of_getElem? (i := 695) (by decide +kernel)) rfl
theorem wd_696 : (Jvm.Cond.selects "AlgebraTreeModel" ({ cls := "AlgebraTreeModel", name := "apply", desc := "(III)I" } : Jvm.MethodName) ({ cls := "AlgebraTreeModel", name := "apply", desc := "(III)I" } : Jvm.MethodName)) ∈ gv_tbl := gv_in (List.mem_of_getElem? (i := 696) (by decide +kernel)) rfl
theorem mv_L_27 : gv_MV "AlgebraTreeLaw" 27 yX7_apply cX7_apply 5 (some .int) 3 7 := ⟨wd_697, wd_695, wd_696, wd_51, gy_X7_apply, Or.inl wd_694, TX7, 15, rfl⟩
theorem wd_254 : (Jvm.Cond.methodLink "AlgebraTreeLaw" (28 : Nat) ({ cls := "AlgebraTree", name := "pattern", desc := "(III)I" } : Jvm.MethodName)) ∈ gv_tbl := gv_in (List.mem_of_getElem? (i := 254) (by decide +kernel)) rfl
set_option maxRecDepth 100000 in
theorem wd_257 : (Jvm.Cond.code ({ cls := "AlgebraTree", name := "pattern", desc := "(III)I" } : Jvm.MethodName) prog_1_method_5_code (5 : Nat) (Option.some Jvm.ClassFile.FieldType.int)) ∈ gv_tbl := gv_in (List.mem_of_getElem? (i := 257) rfl) rfl
theorem gy_X6_pattern : gv_y yX6_pattern 3 := ⟨by decide +kernel, by decide +kernel, by decide +kernel⟩
theorem wd_255 : (Jvm.Cond.instanceMethod ({ cls := "AlgebraTree", name := "pattern", desc := "(III)I" } : Jvm.MethodName)) ∈ gv_tbl := gv_in (List.mem_of_getElem? (i := 255) (by decide +kernel)) rfl
theorem wd_256 : (Jvm.Cond.selects "AlgebraTree" ({ cls := "AlgebraTree", name := "pattern", desc := "(III)I" } : Jvm.MethodName) ({ cls := "AlgebraTree", name := "pattern", desc := "(III)I" } : Jvm.MethodName)) ∈ gv_tbl := gv_in (List.mem_of_getElem? (i := 256) (by decide +kernel)) rfl
theorem mv_L_28 : gv_MV "AlgebraTreeLaw" 28 yX6_pattern cX6_pattern 5 (some .int) 3 6 := ⟨wd_257, wd_255, wd_256, wd_45, gy_X6_pattern, Or.inl wd_254, TX6, 5, rfl⟩
theorem wd_702 : (Jvm.Cond.methodLink "AlgebraTreeLaw" (31 : Nat) ({ cls := "AlgebraTreeModel", name := "pattern", desc := "(III)I" } : Jvm.MethodName)) ∈ gv_tbl := gv_in (List.mem_of_getElem? (i := 702) (by decide +kernel)) rfl
set_option maxRecDepth 100000 in
theorem wd_705 : (Jvm.Cond.code ({ cls := "AlgebraTreeModel", name := "pattern", desc := "(III)I" } : Jvm.MethodName) prog_9_method_16_code (4 : Nat) (Option.some Jvm.ClassFile.FieldType.int)) ∈ gv_tbl := gv_in (List.mem_of_getElem? (i := 705) rfl) rfl
theorem gy_X7_pattern : gv_y yX7_pattern 3 := ⟨by decide +kernel, by decide +kernel, by decide +kernel⟩
theorem wd_703 : (Jvm.Cond.instanceMethod ({ cls := "AlgebraTreeModel", name := "pattern", desc := "(III)I" } : Jvm.MethodName)) ∈ gv_tbl := gv_in (List.mem_of_getElem? (i := 703) (by decide +kernel)) rfl
theorem wd_704 : (Jvm.Cond.selects "AlgebraTreeModel" ({ cls := "AlgebraTreeModel", name := "pattern", desc := "(III)I" } : Jvm.MethodName) ({ cls := "AlgebraTreeModel", name := "pattern", desc := "(III)I" } : Jvm.MethodName)) ∈ gv_tbl := gv_in (List.mem_of_getElem? (i := 704) (by decide +kernel)) rfl
theorem mv_L_31 : gv_MV "AlgebraTreeLaw" 31 yX7_pattern cX7_pattern 4 (some .int) 3 7 := ⟨wd_705, wd_703, wd_704, wd_51, gy_X7_pattern, Or.inl wd_702, TX7, 15, rfl⟩
theorem wd_333 : (Jvm.Cond.methodLink "AlgebraTreeLaw" (32 : Nat) ({ cls := "AlgebraTree", name := "both", desc := "(III)I" } : Jvm.MethodName)) ∈ gv_tbl := gv_in (List.mem_of_getElem? (i := 333) (by decide +kernel)) rfl
set_option maxRecDepth 100000 in
theorem wd_336 : (Jvm.Cond.code ({ cls := "AlgebraTree", name := "both", desc := "(III)I" } : Jvm.MethodName) prog_1_method_6_code (4 : Nat) (Option.some Jvm.ClassFile.FieldType.int)) ∈ gv_tbl := gv_in (List.mem_of_getElem? (i := 336) rfl) rfl
theorem gy_X6_both : gv_y yX6_both 3 := ⟨by decide +kernel, by decide +kernel, by decide +kernel⟩
theorem wd_334 : (Jvm.Cond.instanceMethod ({ cls := "AlgebraTree", name := "both", desc := "(III)I" } : Jvm.MethodName)) ∈ gv_tbl := gv_in (List.mem_of_getElem? (i := 334) (by decide +kernel)) rfl
theorem wd_335 : (Jvm.Cond.selects "AlgebraTree" ({ cls := "AlgebraTree", name := "both", desc := "(III)I" } : Jvm.MethodName) ({ cls := "AlgebraTree", name := "both", desc := "(III)I" } : Jvm.MethodName)) ∈ gv_tbl := gv_in (List.mem_of_getElem? (i := 335) (by decide +kernel)) rfl
theorem mv_L_32 : gv_MV "AlgebraTreeLaw" 32 yX6_both cX6_both 4 (some .int) 3 6 := ⟨wd_336, wd_334, wd_335, wd_45, gy_X6_both, Or.inl wd_333, TX6, 5, rfl⟩
theorem wd_713 : (Jvm.Cond.methodLink "AlgebraTreeLaw" (35 : Nat) ({ cls := "AlgebraTreeModel", name := "both", desc := "(III)I" } : Jvm.MethodName)) ∈ gv_tbl := gv_in (List.mem_of_getElem? (i := 713) (by decide +kernel)) rfl
set_option maxRecDepth 100000 in
theorem wd_716 : (Jvm.Cond.code ({ cls := "AlgebraTreeModel", name := "both", desc := "(III)I" } : Jvm.MethodName) prog_9_method_17_code (4 : Nat) (Option.some Jvm.ClassFile.FieldType.int)) ∈ gv_tbl := gv_in (List.mem_of_getElem? (i := 716) rfl) rfl
theorem gy_X7_both : gv_y yX7_both 3 := ⟨by decide +kernel, by decide +kernel, by decide +kernel⟩
theorem wd_714 : (Jvm.Cond.instanceMethod ({ cls := "AlgebraTreeModel", name := "both", desc := "(III)I" } : Jvm.MethodName)) ∈ gv_tbl := gv_in (List.mem_of_getElem? (i := 714) (by decide +kernel)) rfl
theorem wd_715 : (Jvm.Cond.selects "AlgebraTreeModel" ({ cls := "AlgebraTreeModel", name := "both", desc := "(III)I" } : Jvm.MethodName) ({ cls := "AlgebraTreeModel", name := "both", desc := "(III)I" } : Jvm.MethodName)) ∈ gv_tbl := gv_in (List.mem_of_getElem? (i := 715) (by decide +kernel)) rfl
theorem mv_L_35 : gv_MV "AlgebraTreeLaw" 35 yX7_both cX7_both 4 (some .int) 3 7 := ⟨wd_716, wd_714, wd_715, wd_51, gy_X7_both, Or.inl wd_713, TX7, 15, rfl⟩
theorem wd_347 : (Jvm.Cond.methodLink "AlgebraTreeLaw" (36 : Nat) ({ cls := "AlgebraTree", name := "left", desc := "(III)I" } : Jvm.MethodName)) ∈ gv_tbl := gv_in (List.mem_of_getElem? (i := 347) (by decide +kernel)) rfl
set_option maxRecDepth 100000 in
theorem wd_350 : (Jvm.Cond.code ({ cls := "AlgebraTree", name := "left", desc := "(III)I" } : Jvm.MethodName) prog_1_method_7_code (5 : Nat) (Option.some Jvm.ClassFile.FieldType.int)) ∈ gv_tbl := gv_in (List.mem_of_getElem? (i := 350) rfl) rfl
theorem gy_X6_left : gv_y yX6_left 3 := ⟨by decide +kernel, by decide +kernel, by decide +kernel⟩
theorem wd_348 : (Jvm.Cond.instanceMethod ({ cls := "AlgebraTree", name := "left", desc := "(III)I" } : Jvm.MethodName)) ∈ gv_tbl := gv_in (List.mem_of_getElem? (i := 348) (by decide +kernel)) rfl
theorem wd_349 : (Jvm.Cond.selects "AlgebraTree" ({ cls := "AlgebraTree", name := "left", desc := "(III)I" } : Jvm.MethodName) ({ cls := "AlgebraTree", name := "left", desc := "(III)I" } : Jvm.MethodName)) ∈ gv_tbl := gv_in (List.mem_of_getElem? (i := 349) (by decide +kernel)) rfl
theorem mv_L_36 : gv_MV "AlgebraTreeLaw" 36 yX6_left cX6_left 5 (some .int) 3 6 := ⟨wd_350, wd_348, wd_349, wd_45, gy_X6_left, Or.inl wd_347, TX6, 5, rfl⟩
theorem wd_721 : (Jvm.Cond.methodLink "AlgebraTreeLaw" (39 : Nat) ({ cls := "AlgebraTreeModel", name := "left", desc := "(III)I" } : Jvm.MethodName)) ∈ gv_tbl := gv_in (List.mem_of_getElem? (i := 721) (by decide +kernel)) rfl
set_option maxRecDepth 100000 in
theorem wd_724 : (Jvm.Cond.code ({ cls := "AlgebraTreeModel", name := "left", desc := "(III)I" } : Jvm.MethodName) prog_9_method_18_code (4 : Nat) (Option.some Jvm.ClassFile.FieldType.int)) ∈ gv_tbl := gv_in (List.mem_of_getElem? (i := 724) rfl) rfl
theorem gy_X7_left : gv_y yX7_left 3 := ⟨by decide +kernel, by decide +kernel, by decide +kernel⟩
theorem wd_722 : (Jvm.Cond.instanceMethod ({ cls := "AlgebraTreeModel", name := "left", desc := "(III)I" } : Jvm.MethodName)) ∈ gv_tbl := gv_in (List.mem_of_getElem? (i := 722) (by decide +kernel)) rfl
theorem wd_723 : (Jvm.Cond.selects "AlgebraTreeModel" ({ cls := "AlgebraTreeModel", name := "left", desc := "(III)I" } : Jvm.MethodName) ({ cls := "AlgebraTreeModel", name := "left", desc := "(III)I" } : Jvm.MethodName)) ∈ gv_tbl := gv_in (List.mem_of_getElem? (i := 723) (by decide +kernel)) rfl
theorem mv_L_39 : gv_MV "AlgebraTreeLaw" 39 yX7_left cX7_left 4 (some .int) 3 7 := ⟨wd_724, wd_722, wd_723, wd_51, gy_X7_left, Or.inl wd_721, TX7, 15, rfl⟩
theorem wd_351 : (Jvm.Cond.methodLink "AlgebraTreeLaw" (40 : Nat) ({ cls := "AlgebraTree", name := "filter", desc := "(II)I" } : Jvm.MethodName)) ∈ gv_tbl := gv_in (List.mem_of_getElem? (i := 351) (by decide +kernel)) rfl
set_option maxRecDepth 100000 in
theorem wd_354 : (Jvm.Cond.code ({ cls := "AlgebraTree", name := "filter", desc := "(II)I" } : Jvm.MethodName) prog_1_method_8_code (4 : Nat) (Option.some Jvm.ClassFile.FieldType.int)) ∈ gv_tbl := gv_in (List.mem_of_getElem? (i := 354) rfl) rfl
theorem gy_X6_filter : gv_y yX6_filter 2 := ⟨by decide +kernel, by decide +kernel, by decide +kernel⟩
theorem wd_352 : (Jvm.Cond.instanceMethod ({ cls := "AlgebraTree", name := "filter", desc := "(II)I" } : Jvm.MethodName)) ∈ gv_tbl := gv_in (List.mem_of_getElem? (i := 352) (by decide +kernel)) rfl
theorem wd_353 : (Jvm.Cond.selects "AlgebraTree" ({ cls := "AlgebraTree", name := "filter", desc := "(II)I" } : Jvm.MethodName) ({ cls := "AlgebraTree", name := "filter", desc := "(II)I" } : Jvm.MethodName)) ∈ gv_tbl := gv_in (List.mem_of_getElem? (i := 353) (by decide +kernel)) rfl
theorem mv_L_40 : gv_MV "AlgebraTreeLaw" 40 yX6_filter cX6_filter 4 (some .int) 2 6 := ⟨wd_354, wd_352, wd_353, wd_45, gy_X6_filter, Or.inl wd_351, TX6, 5, rfl⟩
theorem wd_725 : (Jvm.Cond.methodLink "AlgebraTreeLaw" (43 : Nat) ({ cls := "AlgebraTreeModel", name := "filter", desc := "(II)I" } : Jvm.MethodName)) ∈ gv_tbl := gv_in (List.mem_of_getElem? (i := 725) (by decide +kernel)) rfl
set_option maxRecDepth 100000 in
theorem wd_728 : (Jvm.Cond.code ({ cls := "AlgebraTreeModel", name := "filter", desc := "(II)I" } : Jvm.MethodName) prog_9_method_19_code (3 : Nat) (Option.some Jvm.ClassFile.FieldType.int)) ∈ gv_tbl := gv_in (List.mem_of_getElem? (i := 728) rfl) rfl
theorem gy_X7_filter : gv_y yX7_filter 2 := ⟨by decide +kernel, by decide +kernel, by decide +kernel⟩
theorem wd_726 : (Jvm.Cond.instanceMethod ({ cls := "AlgebraTreeModel", name := "filter", desc := "(II)I" } : Jvm.MethodName)) ∈ gv_tbl := gv_in (List.mem_of_getElem? (i := 726) (by decide +kernel)) rfl
theorem wd_727 : (Jvm.Cond.selects "AlgebraTreeModel" ({ cls := "AlgebraTreeModel", name := "filter", desc := "(II)I" } : Jvm.MethodName) ({ cls := "AlgebraTreeModel", name := "filter", desc := "(II)I" } : Jvm.MethodName)) ∈ gv_tbl := gv_in (List.mem_of_getElem? (i := 727) (by decide +kernel)) rfl
theorem mv_L_43 : gv_MV "AlgebraTreeLaw" 43 yX7_filter cX7_filter 3 (some .int) 2 7 := ⟨wd_728, wd_726, wd_727, wd_51, gy_X7_filter, Or.inl wd_725, TX7, 15, rfl⟩
theorem wd_355 : (Jvm.Cond.methodLink "AlgebraTreeLaw" (44 : Nat) ({ cls := "AlgebraTree", name := "extend", desc := "(III)I" } : Jvm.MethodName)) ∈ gv_tbl := gv_in (List.mem_of_getElem? (i := 355) (by decide +kernel)) rfl
set_option maxRecDepth 100000 in
theorem wd_358 : (Jvm.Cond.code ({ cls := "AlgebraTree", name := "extend", desc := "(III)I" } : Jvm.MethodName) prog_1_method_9_code (5 : Nat) (Option.some Jvm.ClassFile.FieldType.int)) ∈ gv_tbl := gv_in (List.mem_of_getElem? (i := 358) rfl) rfl
theorem gy_X6_extend : gv_y yX6_extend 3 := ⟨by decide +kernel, by decide +kernel, by decide +kernel⟩
theorem wd_356 : (Jvm.Cond.instanceMethod ({ cls := "AlgebraTree", name := "extend", desc := "(III)I" } : Jvm.MethodName)) ∈ gv_tbl := gv_in (List.mem_of_getElem? (i := 356) (by decide +kernel)) rfl
theorem wd_357 : (Jvm.Cond.selects "AlgebraTree" ({ cls := "AlgebraTree", name := "extend", desc := "(III)I" } : Jvm.MethodName) ({ cls := "AlgebraTree", name := "extend", desc := "(III)I" } : Jvm.MethodName)) ∈ gv_tbl := gv_in (List.mem_of_getElem? (i := 357) (by decide +kernel)) rfl
theorem mv_L_44 : gv_MV "AlgebraTreeLaw" 44 yX6_extend cX6_extend 5 (some .int) 3 6 := ⟨wd_358, wd_356, wd_357, wd_45, gy_X6_extend, Or.inl wd_355, TX6, 5, rfl⟩
theorem wd_729 : (Jvm.Cond.methodLink "AlgebraTreeLaw" (47 : Nat) ({ cls := "AlgebraTreeModel", name := "extend", desc := "(III)I" } : Jvm.MethodName)) ∈ gv_tbl := gv_in (List.mem_of_getElem? (i := 729) (by decide +kernel)) rfl
set_option maxRecDepth 100000 in
theorem wd_732 : (Jvm.Cond.code ({ cls := "AlgebraTreeModel", name := "extend", desc := "(III)I" } : Jvm.MethodName) prog_9_method_20_code (4 : Nat) (Option.some Jvm.ClassFile.FieldType.int)) ∈ gv_tbl := gv_in (List.mem_of_getElem? (i := 732) rfl) rfl
theorem gy_X7_extend : gv_y yX7_extend 3 := ⟨by decide +kernel, by decide +kernel, by decide +kernel⟩
theorem wd_730 : (Jvm.Cond.instanceMethod ({ cls := "AlgebraTreeModel", name := "extend", desc := "(III)I" } : Jvm.MethodName)) ∈ gv_tbl := gv_in (List.mem_of_getElem? (i := 730) (by decide +kernel)) rfl
theorem wd_731 : (Jvm.Cond.selects "AlgebraTreeModel" ({ cls := "AlgebraTreeModel", name := "extend", desc := "(III)I" } : Jvm.MethodName) ({ cls := "AlgebraTreeModel", name := "extend", desc := "(III)I" } : Jvm.MethodName)) ∈ gv_tbl := gv_in (List.mem_of_getElem? (i := 731) (by decide +kernel)) rfl
theorem mv_L_47 : gv_MV "AlgebraTreeLaw" 47 yX7_extend cX7_extend 4 (some .int) 3 7 := ⟨wd_732, wd_730, wd_731, wd_51, gy_X7_extend, Or.inl wd_729, TX7, 15, rfl⟩
theorem wd_359 : (Jvm.Cond.methodLink "AlgebraTreeLaw" (48 : Nat) ({ cls := "AlgebraTree", name := "project", desc := "(II)I" } : Jvm.MethodName)) ∈ gv_tbl := gv_in (List.mem_of_getElem? (i := 359) (by decide +kernel)) rfl
set_option maxRecDepth 100000 in
theorem wd_362 : (Jvm.Cond.code ({ cls := "AlgebraTree", name := "project", desc := "(II)I" } : Jvm.MethodName) prog_1_method_10_code (4 : Nat) (Option.some Jvm.ClassFile.FieldType.int)) ∈ gv_tbl := gv_in (List.mem_of_getElem? (i := 362) rfl) rfl
theorem gy_X6_project : gv_y yX6_project 2 := ⟨by decide +kernel, by decide +kernel, by decide +kernel⟩
theorem wd_360 : (Jvm.Cond.instanceMethod ({ cls := "AlgebraTree", name := "project", desc := "(II)I" } : Jvm.MethodName)) ∈ gv_tbl := gv_in (List.mem_of_getElem? (i := 360) (by decide +kernel)) rfl
theorem wd_361 : (Jvm.Cond.selects "AlgebraTree" ({ cls := "AlgebraTree", name := "project", desc := "(II)I" } : Jvm.MethodName) ({ cls := "AlgebraTree", name := "project", desc := "(II)I" } : Jvm.MethodName)) ∈ gv_tbl := gv_in (List.mem_of_getElem? (i := 361) (by decide +kernel)) rfl
theorem mv_L_48 : gv_MV "AlgebraTreeLaw" 48 yX6_project cX6_project 4 (some .int) 2 6 := ⟨wd_362, wd_360, wd_361, wd_45, gy_X6_project, Or.inl wd_359, TX6, 5, rfl⟩
theorem wd_733 : (Jvm.Cond.methodLink "AlgebraTreeLaw" (51 : Nat) ({ cls := "AlgebraTreeModel", name := "project", desc := "(II)I" } : Jvm.MethodName)) ∈ gv_tbl := gv_in (List.mem_of_getElem? (i := 733) (by decide +kernel)) rfl
set_option maxRecDepth 100000 in
theorem wd_736 : (Jvm.Cond.code ({ cls := "AlgebraTreeModel", name := "project", desc := "(II)I" } : Jvm.MethodName) prog_9_method_21_code (3 : Nat) (Option.some Jvm.ClassFile.FieldType.int)) ∈ gv_tbl := gv_in (List.mem_of_getElem? (i := 736) rfl) rfl
theorem gy_X7_project : gv_y yX7_project 2 := ⟨by decide +kernel, by decide +kernel, by decide +kernel⟩
theorem wd_734 : (Jvm.Cond.instanceMethod ({ cls := "AlgebraTreeModel", name := "project", desc := "(II)I" } : Jvm.MethodName)) ∈ gv_tbl := gv_in (List.mem_of_getElem? (i := 734) (by decide +kernel)) rfl
theorem wd_735 : (Jvm.Cond.selects "AlgebraTreeModel" ({ cls := "AlgebraTreeModel", name := "project", desc := "(II)I" } : Jvm.MethodName) ({ cls := "AlgebraTreeModel", name := "project", desc := "(II)I" } : Jvm.MethodName)) ∈ gv_tbl := gv_in (List.mem_of_getElem? (i := 735) (by decide +kernel)) rfl
theorem mv_L_51 : gv_MV "AlgebraTreeLaw" 51 yX7_project cX7_project 3 (some .int) 2 7 := ⟨wd_736, wd_734, wd_735, wd_51, gy_X7_project, Or.inl wd_733, TX7, 15, rfl⟩
theorem wd_363 : (Jvm.Cond.methodLink "AlgebraTreeLaw" (52 : Nat) ({ cls := "AlgebraTree", name := "distinct", desc := "(I)I" } : Jvm.MethodName)) ∈ gv_tbl := gv_in (List.mem_of_getElem? (i := 363) (by decide +kernel)) rfl
set_option maxRecDepth 100000 in
theorem wd_366 : (Jvm.Cond.code ({ cls := "AlgebraTree", name := "distinct", desc := "(I)I" } : Jvm.MethodName) prog_1_method_11_code (2 : Nat) (Option.some Jvm.ClassFile.FieldType.int)) ∈ gv_tbl := gv_in (List.mem_of_getElem? (i := 366) rfl) rfl
theorem gy_X6_distinct : gv_y yX6_distinct 1 := ⟨by decide +kernel, by decide +kernel, by decide +kernel⟩
theorem wd_364 : (Jvm.Cond.instanceMethod ({ cls := "AlgebraTree", name := "distinct", desc := "(I)I" } : Jvm.MethodName)) ∈ gv_tbl := gv_in (List.mem_of_getElem? (i := 364) (by decide +kernel)) rfl
theorem wd_365 : (Jvm.Cond.selects "AlgebraTree" ({ cls := "AlgebraTree", name := "distinct", desc := "(I)I" } : Jvm.MethodName) ({ cls := "AlgebraTree", name := "distinct", desc := "(I)I" } : Jvm.MethodName)) ∈ gv_tbl := gv_in (List.mem_of_getElem? (i := 365) (by decide +kernel)) rfl
theorem mv_L_52 : gv_MV "AlgebraTreeLaw" 52 yX6_distinct cX6_distinct 2 (some .int) 1 6 := ⟨wd_366, wd_364, wd_365, wd_45, gy_X6_distinct, Or.inl wd_363, TX6, 5, rfl⟩
theorem wd_737 : (Jvm.Cond.methodLink "AlgebraTreeLaw" (56 : Nat) ({ cls := "AlgebraTreeModel", name := "distinct", desc := "(I)I" } : Jvm.MethodName)) ∈ gv_tbl := gv_in (List.mem_of_getElem? (i := 737) (by decide +kernel)) rfl
set_option maxRecDepth 100000 in
theorem wd_740 : (Jvm.Cond.code ({ cls := "AlgebraTreeModel", name := "distinct", desc := "(I)I" } : Jvm.MethodName) prog_9_method_22_code (2 : Nat) (Option.some Jvm.ClassFile.FieldType.int)) ∈ gv_tbl := gv_in (List.mem_of_getElem? (i := 740) rfl) rfl
theorem gy_X7_distinct : gv_y yX7_distinct 1 := ⟨by decide +kernel, by decide +kernel, by decide +kernel⟩
theorem wd_738 : (Jvm.Cond.instanceMethod ({ cls := "AlgebraTreeModel", name := "distinct", desc := "(I)I" } : Jvm.MethodName)) ∈ gv_tbl := gv_in (List.mem_of_getElem? (i := 738) (by decide +kernel)) rfl
theorem wd_739 : (Jvm.Cond.selects "AlgebraTreeModel" ({ cls := "AlgebraTreeModel", name := "distinct", desc := "(I)I" } : Jvm.MethodName) ({ cls := "AlgebraTreeModel", name := "distinct", desc := "(I)I" } : Jvm.MethodName)) ∈ gv_tbl := gv_in (List.mem_of_getElem? (i := 739) (by decide +kernel)) rfl
theorem mv_L_56 : gv_MV "AlgebraTreeLaw" 56 yX7_distinct cX7_distinct 2 (some .int) 1 7 := ⟨wd_740, wd_738, wd_739, wd_51, gy_X7_distinct, Or.inl wd_737, TX7, 15, rfl⟩
theorem wd_367 : (Jvm.Cond.methodLink "AlgebraTreeLaw" (57 : Nat) ({ cls := "AlgebraTree", name := "slice", desc := "(III)I" } : Jvm.MethodName)) ∈ gv_tbl := gv_in (List.mem_of_getElem? (i := 367) (by decide +kernel)) rfl
set_option maxRecDepth 100000 in
theorem wd_370 : (Jvm.Cond.code ({ cls := "AlgebraTree", name := "slice", desc := "(III)I" } : Jvm.MethodName) prog_1_method_12_code (5 : Nat) (Option.some Jvm.ClassFile.FieldType.int)) ∈ gv_tbl := gv_in (List.mem_of_getElem? (i := 370) rfl) rfl
theorem gy_X6_slice : gv_y yX6_slice 3 := ⟨by decide +kernel, by decide +kernel, by decide +kernel⟩
theorem wd_368 : (Jvm.Cond.instanceMethod ({ cls := "AlgebraTree", name := "slice", desc := "(III)I" } : Jvm.MethodName)) ∈ gv_tbl := gv_in (List.mem_of_getElem? (i := 368) (by decide +kernel)) rfl
theorem wd_369 : (Jvm.Cond.selects "AlgebraTree" ({ cls := "AlgebraTree", name := "slice", desc := "(III)I" } : Jvm.MethodName) ({ cls := "AlgebraTree", name := "slice", desc := "(III)I" } : Jvm.MethodName)) ∈ gv_tbl := gv_in (List.mem_of_getElem? (i := 369) (by decide +kernel)) rfl
theorem mv_L_57 : gv_MV "AlgebraTreeLaw" 57 yX6_slice cX6_slice 5 (some .int) 3 6 := ⟨wd_370, wd_368, wd_369, wd_45, gy_X6_slice, Or.inl wd_367, TX6, 5, rfl⟩
theorem wd_741 : (Jvm.Cond.methodLink "AlgebraTreeLaw" (60 : Nat) ({ cls := "AlgebraTreeModel", name := "slice", desc := "(III)I" } : Jvm.MethodName)) ∈ gv_tbl := gv_in (List.mem_of_getElem? (i := 741) (by decide +kernel)) rfl
set_option maxRecDepth 100000 in
theorem wd_744 : (Jvm.Cond.code ({ cls := "AlgebraTreeModel", name := "slice", desc := "(III)I" } : Jvm.MethodName) prog_9_method_23_code (4 : Nat) (Option.some Jvm.ClassFile.FieldType.int)) ∈ gv_tbl := gv_in (List.mem_of_getElem? (i := 744) rfl) rfl
theorem gy_X7_slice : gv_y yX7_slice 3 := ⟨by decide +kernel, by decide +kernel, by decide +kernel⟩
theorem wd_742 : (Jvm.Cond.instanceMethod ({ cls := "AlgebraTreeModel", name := "slice", desc := "(III)I" } : Jvm.MethodName)) ∈ gv_tbl := gv_in (List.mem_of_getElem? (i := 742) (by decide +kernel)) rfl
theorem wd_743 : (Jvm.Cond.selects "AlgebraTreeModel" ({ cls := "AlgebraTreeModel", name := "slice", desc := "(III)I" } : Jvm.MethodName) ({ cls := "AlgebraTreeModel", name := "slice", desc := "(III)I" } : Jvm.MethodName)) ∈ gv_tbl := gv_in (List.mem_of_getElem? (i := 743) (by decide +kernel)) rfl
theorem mv_L_60 : gv_MV "AlgebraTreeLaw" 60 yX7_slice cX7_slice 4 (some .int) 3 7 := ⟨wd_744, wd_742, wd_743, wd_51, gy_X7_slice, Or.inl wd_741, TX7, 15, rfl⟩
theorem wd_374 : (Jvm.Cond.methodLink "AlgebraTreeLaw" (61 : Nat) ({ cls := "AlgebraTree", name := "order", desc := "(IIZ)I" } : Jvm.MethodName)) ∈ gv_tbl := gv_in (List.mem_of_getElem? (i := 374) (by decide +kernel)) rfl
set_option maxRecDepth 100000 in
theorem wd_377 : (Jvm.Cond.code ({ cls := "AlgebraTree", name := "order", desc := "(IIZ)I" } : Jvm.MethodName) prog_1_method_13_code (5 : Nat) (Option.some Jvm.ClassFile.FieldType.int)) ∈ gv_tbl := gv_in (List.mem_of_getElem? (i := 377) rfl) rfl
theorem gy_X6_order : gv_y yX6_order 3 := ⟨by decide +kernel, by decide +kernel, by decide +kernel⟩
theorem wd_375 : (Jvm.Cond.instanceMethod ({ cls := "AlgebraTree", name := "order", desc := "(IIZ)I" } : Jvm.MethodName)) ∈ gv_tbl := gv_in (List.mem_of_getElem? (i := 375) (by decide +kernel)) rfl
theorem wd_376 : (Jvm.Cond.selects "AlgebraTree" ({ cls := "AlgebraTree", name := "order", desc := "(IIZ)I" } : Jvm.MethodName) ({ cls := "AlgebraTree", name := "order", desc := "(IIZ)I" } : Jvm.MethodName)) ∈ gv_tbl := gv_in (List.mem_of_getElem? (i := 376) (by decide +kernel)) rfl
theorem mv_L_61 : gv_MV "AlgebraTreeLaw" 61 yX6_order cX6_order 5 (some .int) 3 6 := ⟨wd_377, wd_375, wd_376, wd_45, gy_X6_order, Or.inl wd_374, TX6, 5, rfl⟩
theorem wd_745 : (Jvm.Cond.methodLink "AlgebraTreeLaw" (65 : Nat) ({ cls := "AlgebraTreeModel", name := "order", desc := "(IIZ)I" } : Jvm.MethodName)) ∈ gv_tbl := gv_in (List.mem_of_getElem? (i := 745) (by decide +kernel)) rfl
set_option maxRecDepth 100000 in
theorem wd_748 : (Jvm.Cond.code ({ cls := "AlgebraTreeModel", name := "order", desc := "(IIZ)I" } : Jvm.MethodName) prog_9_method_24_code (4 : Nat) (Option.some Jvm.ClassFile.FieldType.int)) ∈ gv_tbl := gv_in (List.mem_of_getElem? (i := 748) rfl) rfl
theorem gy_X7_order : gv_y yX7_order 3 := ⟨by decide +kernel, by decide +kernel, by decide +kernel⟩
theorem wd_746 : (Jvm.Cond.instanceMethod ({ cls := "AlgebraTreeModel", name := "order", desc := "(IIZ)I" } : Jvm.MethodName)) ∈ gv_tbl := gv_in (List.mem_of_getElem? (i := 746) (by decide +kernel)) rfl
theorem wd_747 : (Jvm.Cond.selects "AlgebraTreeModel" ({ cls := "AlgebraTreeModel", name := "order", desc := "(IIZ)I" } : Jvm.MethodName) ({ cls := "AlgebraTreeModel", name := "order", desc := "(IIZ)I" } : Jvm.MethodName)) ∈ gv_tbl := gv_in (List.mem_of_getElem? (i := 747) (by decide +kernel)) rfl
theorem mv_L_65 : gv_MV "AlgebraTreeLaw" 65 yX7_order cX7_order 4 (some .int) 3 7 := ⟨wd_748, wd_746, wd_747, wd_51, gy_X7_order, Or.inl wd_745, TX7, 15, rfl⟩
theorem wd_378 : (Jvm.Cond.methodLink "AlgebraTreeLaw" (66 : Nat) ({ cls := "AlgebraTree", name := "group", desc := "(IIIII)I" } : Jvm.MethodName)) ∈ gv_tbl := gv_in (List.mem_of_getElem? (i := 378) (by decide +kernel)) rfl
set_option maxRecDepth 100000 in
theorem wd_381 : (Jvm.Cond.code ({ cls := "AlgebraTree", name := "group", desc := "(IIIII)I" } : Jvm.MethodName) prog_1_method_14_code (7 : Nat) (Option.some Jvm.ClassFile.FieldType.int)) ∈ gv_tbl := gv_in (List.mem_of_getElem? (i := 381) rfl) rfl
theorem gy_X6_group : gv_y yX6_group 5 := ⟨by decide +kernel, by decide +kernel, by decide +kernel⟩
theorem wd_379 : (Jvm.Cond.instanceMethod ({ cls := "AlgebraTree", name := "group", desc := "(IIIII)I" } : Jvm.MethodName)) ∈ gv_tbl := gv_in (List.mem_of_getElem? (i := 379) (by decide +kernel)) rfl
theorem wd_380 : (Jvm.Cond.selects "AlgebraTree" ({ cls := "AlgebraTree", name := "group", desc := "(IIIII)I" } : Jvm.MethodName) ({ cls := "AlgebraTree", name := "group", desc := "(IIIII)I" } : Jvm.MethodName)) ∈ gv_tbl := gv_in (List.mem_of_getElem? (i := 380) (by decide +kernel)) rfl
theorem mv_L_66 : gv_MV "AlgebraTreeLaw" 66 yX6_group cX6_group 7 (some .int) 5 6 := ⟨wd_381, wd_379, wd_380, wd_45, gy_X6_group, Or.inl wd_378, TX6, 5, rfl⟩
theorem wd_749 : (Jvm.Cond.methodLink "AlgebraTreeLaw" (70 : Nat) ({ cls := "AlgebraTreeModel", name := "group", desc := "(IIIII)I" } : Jvm.MethodName)) ∈ gv_tbl := gv_in (List.mem_of_getElem? (i := 749) (by decide +kernel)) rfl
set_option maxRecDepth 100000 in
theorem wd_752 : (Jvm.Cond.code ({ cls := "AlgebraTreeModel", name := "group", desc := "(IIIII)I" } : Jvm.MethodName) prog_9_method_25_code (7 : Nat) (Option.some Jvm.ClassFile.FieldType.int)) ∈ gv_tbl := gv_in (List.mem_of_getElem? (i := 752) rfl) rfl
theorem gy_X7_group : gv_y yX7_group 5 := ⟨by decide +kernel, by decide +kernel, by decide +kernel⟩
theorem wd_750 : (Jvm.Cond.instanceMethod ({ cls := "AlgebraTreeModel", name := "group", desc := "(IIIII)I" } : Jvm.MethodName)) ∈ gv_tbl := gv_in (List.mem_of_getElem? (i := 750) (by decide +kernel)) rfl
theorem wd_751 : (Jvm.Cond.selects "AlgebraTreeModel" ({ cls := "AlgebraTreeModel", name := "group", desc := "(IIIII)I" } : Jvm.MethodName) ({ cls := "AlgebraTreeModel", name := "group", desc := "(IIIII)I" } : Jvm.MethodName)) ∈ gv_tbl := gv_in (List.mem_of_getElem? (i := 751) (by decide +kernel)) rfl
theorem mv_L_70 : gv_MV "AlgebraTreeLaw" 70 yX7_group cX7_group 7 (some .int) 5 7 := ⟨wd_752, wd_750, wd_751, wd_51, gy_X7_group, Or.inl wd_749, TX7, 15, rfl⟩
theorem wd_385 : (Jvm.Cond.methodLink "AlgebraTreeLaw" (71 : Nat) ({ cls := "AlgebraTree", name := "graph", desc := "(II)I" } : Jvm.MethodName)) ∈ gv_tbl := gv_in (List.mem_of_getElem? (i := 385) (by decide +kernel)) rfl
set_option maxRecDepth 100000 in
theorem wd_388 : (Jvm.Cond.code ({ cls := "AlgebraTree", name := "graph", desc := "(II)I" } : Jvm.MethodName) prog_1_method_15_code (4 : Nat) (Option.some Jvm.ClassFile.FieldType.int)) ∈ gv_tbl := gv_in (List.mem_of_getElem? (i := 388) rfl) rfl
theorem gy_X6_graph : gv_y yX6_graph 2 := ⟨by decide +kernel, by decide +kernel, by decide +kernel⟩
theorem wd_386 : (Jvm.Cond.instanceMethod ({ cls := "AlgebraTree", name := "graph", desc := "(II)I" } : Jvm.MethodName)) ∈ gv_tbl := gv_in (List.mem_of_getElem? (i := 386) (by decide +kernel)) rfl
theorem wd_387 : (Jvm.Cond.selects "AlgebraTree" ({ cls := "AlgebraTree", name := "graph", desc := "(II)I" } : Jvm.MethodName) ({ cls := "AlgebraTree", name := "graph", desc := "(II)I" } : Jvm.MethodName)) ∈ gv_tbl := gv_in (List.mem_of_getElem? (i := 387) (by decide +kernel)) rfl
theorem mv_L_71 : gv_MV "AlgebraTreeLaw" 71 yX6_graph cX6_graph 4 (some .int) 2 6 := ⟨wd_388, wd_386, wd_387, wd_45, gy_X6_graph, Or.inl wd_385, TX6, 5, rfl⟩
theorem wd_753 : (Jvm.Cond.methodLink "AlgebraTreeLaw" (74 : Nat) ({ cls := "AlgebraTreeModel", name := "graph", desc := "(II)I" } : Jvm.MethodName)) ∈ gv_tbl := gv_in (List.mem_of_getElem? (i := 753) (by decide +kernel)) rfl
set_option maxRecDepth 100000 in
theorem wd_756 : (Jvm.Cond.code ({ cls := "AlgebraTreeModel", name := "graph", desc := "(II)I" } : Jvm.MethodName) prog_9_method_26_code (3 : Nat) (Option.some Jvm.ClassFile.FieldType.int)) ∈ gv_tbl := gv_in (List.mem_of_getElem? (i := 756) rfl) rfl
theorem gy_X7_graph : gv_y yX7_graph 2 := ⟨by decide +kernel, by decide +kernel, by decide +kernel⟩
theorem wd_754 : (Jvm.Cond.instanceMethod ({ cls := "AlgebraTreeModel", name := "graph", desc := "(II)I" } : Jvm.MethodName)) ∈ gv_tbl := gv_in (List.mem_of_getElem? (i := 754) (by decide +kernel)) rfl
theorem wd_755 : (Jvm.Cond.selects "AlgebraTreeModel" ({ cls := "AlgebraTreeModel", name := "graph", desc := "(II)I" } : Jvm.MethodName) ({ cls := "AlgebraTreeModel", name := "graph", desc := "(II)I" } : Jvm.MethodName)) ∈ gv_tbl := gv_in (List.mem_of_getElem? (i := 755) (by decide +kernel)) rfl
theorem mv_L_74 : gv_MV "AlgebraTreeLaw" 74 yX7_graph cX7_graph 3 (some .int) 2 7 := ⟨wd_756, wd_754, wd_755, wd_51, gy_X7_graph, Or.inl wd_753, TX7, 15, rfl⟩
theorem wd_389 : (Jvm.Cond.methodLink "AlgebraTreeLaw" (75 : Nat) ({ cls := "AlgebraTree", name := "graphs", desc := "(II)I" } : Jvm.MethodName)) ∈ gv_tbl := gv_in (List.mem_of_getElem? (i := 389) (by decide +kernel)) rfl
set_option maxRecDepth 100000 in
theorem wd_392 : (Jvm.Cond.code ({ cls := "AlgebraTree", name := "graphs", desc := "(II)I" } : Jvm.MethodName) prog_1_method_16_code (4 : Nat) (Option.some Jvm.ClassFile.FieldType.int)) ∈ gv_tbl := gv_in (List.mem_of_getElem? (i := 392) rfl) rfl
theorem gy_X6_graphs : gv_y yX6_graphs 2 := ⟨by decide +kernel, by decide +kernel, by decide +kernel⟩
theorem wd_390 : (Jvm.Cond.instanceMethod ({ cls := "AlgebraTree", name := "graphs", desc := "(II)I" } : Jvm.MethodName)) ∈ gv_tbl := gv_in (List.mem_of_getElem? (i := 390) (by decide +kernel)) rfl
theorem wd_391 : (Jvm.Cond.selects "AlgebraTree" ({ cls := "AlgebraTree", name := "graphs", desc := "(II)I" } : Jvm.MethodName) ({ cls := "AlgebraTree", name := "graphs", desc := "(II)I" } : Jvm.MethodName)) ∈ gv_tbl := gv_in (List.mem_of_getElem? (i := 391) (by decide +kernel)) rfl
theorem mv_L_75 : gv_MV "AlgebraTreeLaw" 75 yX6_graphs cX6_graphs 4 (some .int) 2 6 := ⟨wd_392, wd_390, wd_391, wd_45, gy_X6_graphs, Or.inl wd_389, TX6, 5, rfl⟩
theorem wd_757 : (Jvm.Cond.methodLink "AlgebraTreeLaw" (78 : Nat) ({ cls := "AlgebraTreeModel", name := "graphs", desc := "(II)I" } : Jvm.MethodName)) ∈ gv_tbl := gv_in (List.mem_of_getElem? (i := 757) (by decide +kernel)) rfl
set_option maxRecDepth 100000 in
theorem wd_760 : (Jvm.Cond.code ({ cls := "AlgebraTreeModel", name := "graphs", desc := "(II)I" } : Jvm.MethodName) prog_9_method_27_code (3 : Nat) (Option.some Jvm.ClassFile.FieldType.int)) ∈ gv_tbl := gv_in (List.mem_of_getElem? (i := 760) rfl) rfl
theorem gy_X7_graphs : gv_y yX7_graphs 2 := ⟨by decide +kernel, by decide +kernel, by decide +kernel⟩
theorem wd_758 : (Jvm.Cond.instanceMethod ({ cls := "AlgebraTreeModel", name := "graphs", desc := "(II)I" } : Jvm.MethodName)) ∈ gv_tbl := gv_in (List.mem_of_getElem? (i := 758) (by decide +kernel)) rfl
theorem wd_759 : (Jvm.Cond.selects "AlgebraTreeModel" ({ cls := "AlgebraTreeModel", name := "graphs", desc := "(II)I" } : Jvm.MethodName) ({ cls := "AlgebraTreeModel", name := "graphs", desc := "(II)I" } : Jvm.MethodName)) ∈ gv_tbl := gv_in (List.mem_of_getElem? (i := 759) (by decide +kernel)) rfl
theorem mv_L_78 : gv_MV "AlgebraTreeLaw" 78 yX7_graphs cX7_graphs 3 (some .int) 2 7 := ⟨wd_760, wd_758, wd_759, wd_51, gy_X7_graphs, Or.inl wd_757, TX7, 15, rfl⟩
theorem wd_393 : (Jvm.Cond.methodLink "AlgebraTreeLaw" (79 : Nat) ({ cls := "AlgebraTree", name := "run", desc := "(I)I" } : Jvm.MethodName)) ∈ gv_tbl := gv_in (List.mem_of_getElem? (i := 393) (by decide +kernel)) rfl
set_option maxRecDepth 100000 in
theorem wd_396 : (Jvm.Cond.code ({ cls := "AlgebraTree", name := "run", desc := "(I)I" } : Jvm.MethodName) prog_1_method_17_code (3 : Nat) (Option.some Jvm.ClassFile.FieldType.int)) ∈ gv_tbl := gv_in (List.mem_of_getElem? (i := 396) rfl) rfl
theorem gy_X6_run : gv_y yX6_run 1 := ⟨by decide +kernel, by decide +kernel, by decide +kernel⟩
theorem wd_394 : (Jvm.Cond.instanceMethod ({ cls := "AlgebraTree", name := "run", desc := "(I)I" } : Jvm.MethodName)) ∈ gv_tbl := gv_in (List.mem_of_getElem? (i := 394) (by decide +kernel)) rfl
theorem wd_395 : (Jvm.Cond.selects "AlgebraTree" ({ cls := "AlgebraTree", name := "run", desc := "(I)I" } : Jvm.MethodName) ({ cls := "AlgebraTree", name := "run", desc := "(I)I" } : Jvm.MethodName)) ∈ gv_tbl := gv_in (List.mem_of_getElem? (i := 395) (by decide +kernel)) rfl
theorem mv_L_79 : gv_MV "AlgebraTreeLaw" 79 yX6_run cX6_run 3 (some .int) 1 6 := ⟨wd_396, wd_394, wd_395, wd_45, gy_X6_run, Or.inl wd_393, TX6, 5, rfl⟩
theorem wd_761 : (Jvm.Cond.methodLink "AlgebraTreeLaw" (82 : Nat) ({ cls := "AlgebraTreeModel", name := "run", desc := "(I)I" } : Jvm.MethodName)) ∈ gv_tbl := gv_in (List.mem_of_getElem? (i := 761) (by decide +kernel)) rfl
set_option maxRecDepth 100000 in
theorem wd_764 : (Jvm.Cond.code ({ cls := "AlgebraTreeModel", name := "run", desc := "(I)I" } : Jvm.MethodName) prog_9_method_49_code (4 : Nat) (Option.some Jvm.ClassFile.FieldType.int)) ∈ gv_tbl := gv_in (List.mem_of_getElem? (i := 764) rfl) rfl
theorem gy_X7_run : gv_y yX7_run 1 := ⟨by decide +kernel, by decide +kernel, by decide +kernel⟩
theorem wd_762 : (Jvm.Cond.instanceMethod ({ cls := "AlgebraTreeModel", name := "run", desc := "(I)I" } : Jvm.MethodName)) ∈ gv_tbl := gv_in (List.mem_of_getElem? (i := 762) (by decide +kernel)) rfl
theorem wd_763 : (Jvm.Cond.selects "AlgebraTreeModel" ({ cls := "AlgebraTreeModel", name := "run", desc := "(I)I" } : Jvm.MethodName) ({ cls := "AlgebraTreeModel", name := "run", desc := "(I)I" } : Jvm.MethodName)) ∈ gv_tbl := gv_in (List.mem_of_getElem? (i := 763) (by decide +kernel)) rfl
theorem mv_L_82 : gv_MV "AlgebraTreeLaw" 82 yX7_run cX7_run 4 (some .int) 1 7 := ⟨wd_764, wd_762, wd_763, wd_51, gy_X7_run, Or.inl wd_761, TX7, 15, rfl⟩
theorem wd_594 : (Jvm.Cond.methodLink "AlgebraTreeLaw" (83 : Nat) ({ cls := "AlgebraTree", name := "value", desc := "(II)I" } : Jvm.MethodName)) ∈ gv_tbl := gv_in (List.mem_of_getElem? (i := 594) (by decide +kernel)) rfl
set_option maxRecDepth 100000 in
theorem wd_597 : (Jvm.Cond.code ({ cls := "AlgebraTree", name := "value", desc := "(II)I" } : Jvm.MethodName) prog_1_method_18_code (3 : Nat) (Option.some Jvm.ClassFile.FieldType.int)) ∈ gv_tbl := gv_in (List.mem_of_getElem? (i := 597) rfl) rfl
theorem gy_X6_value : gv_y yX6_value 2 := ⟨by decide +kernel, by decide +kernel, by decide +kernel⟩
theorem wd_595 : (Jvm.Cond.instanceMethod ({ cls := "AlgebraTree", name := "value", desc := "(II)I" } : Jvm.MethodName)) ∈ gv_tbl := gv_in (List.mem_of_getElem? (i := 595) (by decide +kernel)) rfl
theorem wd_596 : (Jvm.Cond.selects "AlgebraTree" ({ cls := "AlgebraTree", name := "value", desc := "(II)I" } : Jvm.MethodName) ({ cls := "AlgebraTree", name := "value", desc := "(II)I" } : Jvm.MethodName)) ∈ gv_tbl := gv_in (List.mem_of_getElem? (i := 596) (by decide +kernel)) rfl
theorem mv_L_83 : gv_MV "AlgebraTreeLaw" 83 yX6_value cX6_value 3 (some .int) 2 6 := ⟨wd_597, wd_595, wd_596, wd_45, gy_X6_value, Or.inl wd_594, TX6, 5, rfl⟩
theorem wd_867 : (Jvm.Cond.methodLink "AlgebraTreeLaw" (86 : Nat) ({ cls := "AlgebraTreeModel", name := "value", desc := "(II)I" } : Jvm.MethodName)) ∈ gv_tbl := gv_in (List.mem_of_getElem? (i := 867) (by decide +kernel)) rfl
set_option maxRecDepth 100000 in
theorem wd_870 : (Jvm.Cond.code ({ cls := "AlgebraTreeModel", name := "value", desc := "(II)I" } : Jvm.MethodName) prog_9_method_51_code (3 : Nat) (Option.some Jvm.ClassFile.FieldType.int)) ∈ gv_tbl := gv_in (List.mem_of_getElem? (i := 870) rfl) rfl
theorem gy_X7_value : gv_y yX7_value 2 := ⟨by decide +kernel, by decide +kernel, by decide +kernel⟩
theorem wd_868 : (Jvm.Cond.instanceMethod ({ cls := "AlgebraTreeModel", name := "value", desc := "(II)I" } : Jvm.MethodName)) ∈ gv_tbl := gv_in (List.mem_of_getElem? (i := 868) (by decide +kernel)) rfl
theorem wd_869 : (Jvm.Cond.selects "AlgebraTreeModel" ({ cls := "AlgebraTreeModel", name := "value", desc := "(II)I" } : Jvm.MethodName) ({ cls := "AlgebraTreeModel", name := "value", desc := "(II)I" } : Jvm.MethodName)) ∈ gv_tbl := gv_in (List.mem_of_getElem? (i := 869) (by decide +kernel)) rfl
theorem mv_L_86 : gv_MV "AlgebraTreeLaw" 86 yX7_value cX7_value 3 (some .int) 2 7 := ⟨wd_870, wd_868, wd_869, wd_51, gy_X7_value, Or.inl wd_867, TX7, 15, rfl⟩
theorem wd_599 : (Jvm.Cond.methodLink "AlgebraTreeLaw" (87 : Nat) ({ cls := "AlgebraTree", name := "look", desc := "(II)I" } : Jvm.MethodName)) ∈ gv_tbl := gv_in (List.mem_of_getElem? (i := 599) (by decide +kernel)) rfl
set_option maxRecDepth 100000 in
theorem wd_602 : (Jvm.Cond.code ({ cls := "AlgebraTree", name := "look", desc := "(II)I" } : Jvm.MethodName) prog_1_method_19_code (3 : Nat) (Option.some Jvm.ClassFile.FieldType.int)) ∈ gv_tbl := gv_in (List.mem_of_getElem? (i := 602) rfl) rfl
theorem gy_X6_look : gv_y yX6_look 2 := ⟨by decide +kernel, by decide +kernel, by decide +kernel⟩
theorem wd_600 : (Jvm.Cond.instanceMethod ({ cls := "AlgebraTree", name := "look", desc := "(II)I" } : Jvm.MethodName)) ∈ gv_tbl := gv_in (List.mem_of_getElem? (i := 600) (by decide +kernel)) rfl
theorem wd_601 : (Jvm.Cond.selects "AlgebraTree" ({ cls := "AlgebraTree", name := "look", desc := "(II)I" } : Jvm.MethodName) ({ cls := "AlgebraTree", name := "look", desc := "(II)I" } : Jvm.MethodName)) ∈ gv_tbl := gv_in (List.mem_of_getElem? (i := 601) (by decide +kernel)) rfl
theorem mv_L_87 : gv_MV "AlgebraTreeLaw" 87 yX6_look cX6_look 3 (some .int) 2 6 := ⟨wd_602, wd_600, wd_601, wd_45, gy_X6_look, Or.inl wd_599, TX6, 5, rfl⟩
theorem wd_875 : (Jvm.Cond.methodLink "AlgebraTreeLaw" (90 : Nat) ({ cls := "AlgebraTreeModel", name := "look", desc := "(II)I" } : Jvm.MethodName)) ∈ gv_tbl := gv_in (List.mem_of_getElem? (i := 875) (by decide +kernel)) rfl
set_option maxRecDepth 100000 in
theorem wd_878 : (Jvm.Cond.code ({ cls := "AlgebraTreeModel", name := "look", desc := "(II)I" } : Jvm.MethodName) prog_9_method_52_code (4 : Nat) (Option.some Jvm.ClassFile.FieldType.int)) ∈ gv_tbl := gv_in (List.mem_of_getElem? (i := 878) rfl) rfl
theorem gy_X7_look : gv_y yX7_look 2 := ⟨by decide +kernel, by decide +kernel, by decide +kernel⟩
theorem wd_876 : (Jvm.Cond.instanceMethod ({ cls := "AlgebraTreeModel", name := "look", desc := "(II)I" } : Jvm.MethodName)) ∈ gv_tbl := gv_in (List.mem_of_getElem? (i := 876) (by decide +kernel)) rfl
theorem wd_877 : (Jvm.Cond.selects "AlgebraTreeModel" ({ cls := "AlgebraTreeModel", name := "look", desc := "(II)I" } : Jvm.MethodName) ({ cls := "AlgebraTreeModel", name := "look", desc := "(II)I" } : Jvm.MethodName)) ∈ gv_tbl := gv_in (List.mem_of_getElem? (i := 877) (by decide +kernel)) rfl
theorem mv_L_90 : gv_MV "AlgebraTreeLaw" 90 yX7_look cX7_look 4 (some .int) 2 7 := ⟨wd_878, wd_876, wd_877, wd_51, gy_X7_look, Or.inl wd_875, TX7, 15, rfl⟩
theorem wd_604 : (Jvm.Cond.methodLink "AlgebraTreeLaw" (91 : Nat) ({ cls := "AlgebraTree", name := "many", desc := "(I)I" } : Jvm.MethodName)) ∈ gv_tbl := gv_in (List.mem_of_getElem? (i := 604) (by decide +kernel)) rfl
set_option maxRecDepth 100000 in
theorem wd_607 : (Jvm.Cond.code ({ cls := "AlgebraTree", name := "many", desc := "(I)I" } : Jvm.MethodName) prog_1_method_20_code (2 : Nat) (Option.some Jvm.ClassFile.FieldType.int)) ∈ gv_tbl := gv_in (List.mem_of_getElem? (i := 607) rfl) rfl
theorem gy_X6_many : gv_y yX6_many 1 := ⟨by decide +kernel, by decide +kernel, by decide +kernel⟩
theorem wd_605 : (Jvm.Cond.instanceMethod ({ cls := "AlgebraTree", name := "many", desc := "(I)I" } : Jvm.MethodName)) ∈ gv_tbl := gv_in (List.mem_of_getElem? (i := 605) (by decide +kernel)) rfl
theorem wd_606 : (Jvm.Cond.selects "AlgebraTree" ({ cls := "AlgebraTree", name := "many", desc := "(I)I" } : Jvm.MethodName) ({ cls := "AlgebraTree", name := "many", desc := "(I)I" } : Jvm.MethodName)) ∈ gv_tbl := gv_in (List.mem_of_getElem? (i := 606) (by decide +kernel)) rfl
theorem mv_L_91 : gv_MV "AlgebraTreeLaw" 91 yX6_many cX6_many 2 (some .int) 1 6 := ⟨wd_607, wd_605, wd_606, wd_45, gy_X6_many, Or.inl wd_604, TX6, 5, rfl⟩
theorem wd_879 : (Jvm.Cond.methodLink "AlgebraTreeLaw" (94 : Nat) ({ cls := "AlgebraTreeModel", name := "many", desc := "(I)I" } : Jvm.MethodName)) ∈ gv_tbl := gv_in (List.mem_of_getElem? (i := 879) (by decide +kernel)) rfl
set_option maxRecDepth 100000 in
theorem wd_882 : (Jvm.Cond.code ({ cls := "AlgebraTreeModel", name := "many", desc := "(I)I" } : Jvm.MethodName) prog_9_method_53_code (6 : Nat) (Option.some Jvm.ClassFile.FieldType.int)) ∈ gv_tbl := gv_in (List.mem_of_getElem? (i := 882) rfl) rfl
theorem gy_X7_many : gv_y yX7_many 1 := ⟨by decide +kernel, by decide +kernel, by decide +kernel⟩
theorem wd_880 : (Jvm.Cond.instanceMethod ({ cls := "AlgebraTreeModel", name := "many", desc := "(I)I" } : Jvm.MethodName)) ∈ gv_tbl := gv_in (List.mem_of_getElem? (i := 880) (by decide +kernel)) rfl
theorem wd_881 : (Jvm.Cond.selects "AlgebraTreeModel" ({ cls := "AlgebraTreeModel", name := "many", desc := "(I)I" } : Jvm.MethodName) ({ cls := "AlgebraTreeModel", name := "many", desc := "(I)I" } : Jvm.MethodName)) ∈ gv_tbl := gv_in (List.mem_of_getElem? (i := 881) (by decide +kernel)) rfl
theorem mv_L_94 : gv_MV "AlgebraTreeLaw" 94 yX7_many cX7_many 6 (some .int) 1 7 := ⟨wd_882, wd_880, wd_881, wd_51, gy_X7_many, Or.inl wd_879, TX7, 15, rfl⟩
theorem wd_612 : (Jvm.Cond.methodLink "AlgebraTreeLaw" (95 : Nat) ({ cls := "AlgebraTree", name := "same", desc := "(II)Z" } : Jvm.MethodName)) ∈ gv_tbl := gv_in (List.mem_of_getElem? (i := 612) (by decide +kernel)) rfl
set_option maxRecDepth 100000 in
theorem wd_615 : (Jvm.Cond.code ({ cls := "AlgebraTree", name := "same", desc := "(II)Z" } : Jvm.MethodName) prog_1_method_21_code (5 : Nat) (Option.some Jvm.ClassFile.FieldType.boolean)) ∈ gv_tbl := gv_in (List.mem_of_getElem? (i := 615) rfl) rfl
theorem gy_X6_same : gv_y yX6_same 2 := ⟨by decide +kernel, by decide +kernel, by decide +kernel⟩
theorem wd_613 : (Jvm.Cond.instanceMethod ({ cls := "AlgebraTree", name := "same", desc := "(II)Z" } : Jvm.MethodName)) ∈ gv_tbl := gv_in (List.mem_of_getElem? (i := 613) (by decide +kernel)) rfl
theorem wd_614 : (Jvm.Cond.selects "AlgebraTree" ({ cls := "AlgebraTree", name := "same", desc := "(II)Z" } : Jvm.MethodName) ({ cls := "AlgebraTree", name := "same", desc := "(II)Z" } : Jvm.MethodName)) ∈ gv_tbl := gv_in (List.mem_of_getElem? (i := 614) (by decide +kernel)) rfl
theorem mv_L_95 : gv_MV "AlgebraTreeLaw" 95 yX6_same cX6_same 5 (some .boolean) 2 6 := ⟨wd_615, wd_613, wd_614, wd_45, gy_X6_same, Or.inl wd_612, TX6, 5, rfl⟩
theorem wd_883 : (Jvm.Cond.methodLink "AlgebraTreeLaw" (99 : Nat) ({ cls := "AlgebraTreeModel", name := "same", desc := "(II)Z" } : Jvm.MethodName)) ∈ gv_tbl := gv_in (List.mem_of_getElem? (i := 883) (by decide +kernel)) rfl
set_option maxRecDepth 100000 in
theorem wd_886 : (Jvm.Cond.code ({ cls := "AlgebraTreeModel", name := "same", desc := "(II)Z" } : Jvm.MethodName) prog_9_method_55_code (6 : Nat) (Option.some Jvm.ClassFile.FieldType.boolean)) ∈ gv_tbl := gv_in (List.mem_of_getElem? (i := 886) rfl) rfl
theorem gy_X7_same : gv_y yX7_same 2 := ⟨by decide +kernel, by decide +kernel, by decide +kernel⟩
theorem wd_884 : (Jvm.Cond.instanceMethod ({ cls := "AlgebraTreeModel", name := "same", desc := "(II)Z" } : Jvm.MethodName)) ∈ gv_tbl := gv_in (List.mem_of_getElem? (i := 884) (by decide +kernel)) rfl
theorem wd_885 : (Jvm.Cond.selects "AlgebraTreeModel" ({ cls := "AlgebraTreeModel", name := "same", desc := "(II)Z" } : Jvm.MethodName) ({ cls := "AlgebraTreeModel", name := "same", desc := "(II)Z" } : Jvm.MethodName)) ∈ gv_tbl := gv_in (List.mem_of_getElem? (i := 885) (by decide +kernel)) rfl
theorem mv_L_99 : gv_MV "AlgebraTreeLaw" 99 yX7_same cX7_same 6 (some .boolean) 2 7 := ⟨wd_886, wd_884, wd_885, wd_51, gy_X7_same, Or.inl wd_883, TX7, 15, rfl⟩
theorem wd_678 : (Jvm.Cond.methodLink "AlgebraTreeModel" (45 : Nat) ({ cls := "AlgebraTreeModel", name := "within", desc := "(III)Z" } : Jvm.MethodName)) ∈ gv_tbl := gv_in (List.mem_of_getElem? (i := 678) (by decide +kernel)) rfl
set_option maxRecDepth 100000 in
theorem wd_680 : (Jvm.Cond.code ({ cls := "AlgebraTreeModel", name := "within", desc := "(III)Z" } : Jvm.MethodName) prog_9_method_2_code (3 : Nat) (Option.some Jvm.ClassFile.FieldType.boolean)) ∈ gv_tbl := gv_in (List.mem_of_getElem? (i := 680) rfl) rfl
theorem gy_X7_within : gv_y yX7_within 3 := ⟨by decide +kernel, by decide +kernel, by decide +kernel⟩
theorem wd_679 : (Jvm.Cond.static ({ cls := "AlgebraTreeModel", name := "within", desc := "(III)Z" } : Jvm.MethodName)) ∈ gv_tbl := gv_in (List.mem_of_getElem? (i := 679) (by decide +kernel)) rfl
theorem ms_7_45 : gv_MS "AlgebraTreeModel" 45 yX7_within cX7_within 3 (some .boolean) 3 := ⟨wd_680, wd_679, wd_51, gy_X7_within, Or.inl wd_678⟩
theorem wd_687 : (Jvm.Cond.methodLink "AlgebraTreeModel" (58 : Nat) ({ cls := "AlgebraTreeModel", name := "isVariable", desc := "(I)Z" } : Jvm.MethodName)) ∈ gv_tbl := gv_in (List.mem_of_getElem? (i := 687) (by decide +kernel)) rfl
set_option maxRecDepth 100000 in
theorem wd_689 : (Jvm.Cond.code ({ cls := "AlgebraTreeModel", name := "isVariable", desc := "(I)Z" } : Jvm.MethodName) prog_9_method_5_code (1 : Nat) (Option.some Jvm.ClassFile.FieldType.boolean)) ∈ gv_tbl := gv_in (List.mem_of_getElem? (i := 689) rfl) rfl
theorem gy_X7_isVariable : gv_y yX7_isVariable 1 := ⟨by decide +kernel, by decide +kernel, by decide +kernel⟩
theorem wd_688 : (Jvm.Cond.static ({ cls := "AlgebraTreeModel", name := "isVariable", desc := "(I)Z" } : Jvm.MethodName)) ∈ gv_tbl := gv_in (List.mem_of_getElem? (i := 688) (by decide +kernel)) rfl
theorem ms_7_58 : gv_MS "AlgebraTreeModel" 58 yX7_isVariable cX7_isVariable 1 (some .boolean) 1 := ⟨wd_689, wd_688, wd_51, gy_X7_isVariable, Or.inl wd_687⟩
theorem wd_690 : (Jvm.Cond.methodLink "AlgebraTreeModel" (62 : Nat) ({ cls := "AlgebraTreeModel", name := "express", desc := "(III)I" } : Jvm.MethodName)) ∈ gv_tbl := gv_in (List.mem_of_getElem? (i := 690) (by decide +kernel)) rfl
set_option maxRecDepth 100000 in
theorem wd_693 : (Jvm.Cond.code ({ cls := "AlgebraTreeModel", name := "express", desc := "(III)I" } : Jvm.MethodName) prog_9_method_6_code (4 : Nat) (Option.some Jvm.ClassFile.FieldType.int)) ∈ gv_tbl := gv_in (List.mem_of_getElem? (i := 693) rfl) rfl
theorem gy_X7_express : gv_y yX7_express 3 := ⟨by decide +kernel, by decide +kernel, by decide +kernel⟩
theorem wd_692 : (Jvm.Cond.instanceMethod ({ cls := "AlgebraTreeModel", name := "express", desc := "(III)I" } : Jvm.MethodName)) ∈ gv_tbl := gv_in (List.mem_of_getElem? (i := 692) (by decide +kernel)) rfl
theorem wd_16 : (Jvm.Cond.selects "AlgebraTreeModel" ⟨"AlgebraTreeModel", "express", "(III)I"⟩ ⟨"AlgebraTreeModel", "express", "(III)I"⟩) ∈ gv_tbl := gv_in (List.mem_of_getElem? (i := 16) (by decide +kernel)) rfl
theorem mv_7_62 : gv_MV "AlgebraTreeModel" 62 yX7_express cX7_express 4 (some .int) 3 7 := ⟨wd_693, wd_692, wd_16, wd_51, gy_X7_express, Or.inl wd_690, TX7, 15, rfl⟩
theorem wd_698 : (Jvm.Cond.methodLink "AlgebraTreeModel" (66 : Nat) ({ cls := "AlgebraTreeModel", name := "isExpression", desc := "(I)Z" } : Jvm.MethodName)) ∈ gv_tbl := gv_in (List.mem_of_getElem? (i := 698) (by decide +kernel)) rfl
set_option maxRecDepth 100000 in
theorem wd_701 : (Jvm.Cond.code ({ cls := "AlgebraTreeModel", name := "isExpression", desc := "(I)Z" } : Jvm.MethodName) prog_9_method_4_code (2 : Nat) (Option.some Jvm.ClassFile.FieldType.boolean)) ∈ gv_tbl := gv_in (List.mem_of_getElem? (i := 701) rfl) rfl
theorem gy_X7_isExpression : gv_y yX7_isExpression 1 := ⟨by decide +kernel, by decide +kernel, by decide +kernel⟩
theorem wd_700 : (Jvm.Cond.instanceMethod ({ cls := "AlgebraTreeModel", name := "isExpression", desc := "(I)Z" } : Jvm.MethodName)) ∈ gv_tbl := gv_in (List.mem_of_getElem? (i := 700) (by decide +kernel)) rfl
theorem wd_17 : (Jvm.Cond.selects "AlgebraTreeModel" ⟨"AlgebraTreeModel", "isExpression", "(I)Z"⟩ ⟨"AlgebraTreeModel", "isExpression", "(I)Z"⟩) ∈ gv_tbl := gv_in (List.mem_of_getElem? (i := 17) (by decide +kernel)) rfl
theorem mv_7_66 : gv_MV "AlgebraTreeModel" 66 yX7_isExpression cX7_isExpression 2 (some .boolean) 1 7 := ⟨wd_701, wd_700, wd_17, wd_51, gy_X7_isExpression, Or.inl wd_698, TX7, 15, rfl⟩
theorem wd_828 : (Jvm.Cond.methodLink "AlgebraTreeModel" (74 : Nat) ({ cls := "AlgebraTreeModel", name := "bounded", desc := "(J)I" } : Jvm.MethodName)) ∈ gv_tbl := gv_in (List.mem_of_getElem? (i := 828) (by decide +kernel)) rfl
set_option maxRecDepth 100000 in
theorem wd_830 : (Jvm.Cond.code ({ cls := "AlgebraTreeModel", name := "bounded", desc := "(J)I" } : Jvm.MethodName) prog_9_method_9_code (2 : Nat) (Option.some Jvm.ClassFile.FieldType.int)) ∈ gv_tbl := gv_in (List.mem_of_getElem? (i := 830) rfl) rfl
theorem gy_X7_bounded : gv_y yX7_bounded 1 := ⟨by decide +kernel, by decide +kernel, by decide +kernel⟩
theorem wd_829 : (Jvm.Cond.static ({ cls := "AlgebraTreeModel", name := "bounded", desc := "(J)I" } : Jvm.MethodName)) ∈ gv_tbl := gv_in (List.mem_of_getElem? (i := 829) (by decide +kernel)) rfl
theorem ms_7_74 : gv_MS "AlgebraTreeModel" 74 yX7_bounded cX7_bounded 2 (some .int) 1 := ⟨wd_830, wd_829, wd_51, gy_X7_bounded, Or.inl wd_828⟩
theorem wd_825 : (Jvm.Cond.methodLink "AlgebraTreeModel" (78 : Nat) ({ cls := "AlgebraTreeModel", name := "ofTwo", desc := "(III)I" } : Jvm.MethodName)) ∈ gv_tbl := gv_in (List.mem_of_getElem? (i := 825) (by decide +kernel)) rfl
set_option maxRecDepth 100000 in
theorem wd_827 : (Jvm.Cond.code ({ cls := "AlgebraTreeModel", name := "ofTwo", desc := "(III)I" } : Jvm.MethodName) prog_9_method_10_code (6 : Nat) (Option.some Jvm.ClassFile.FieldType.int)) ∈ gv_tbl := gv_in (List.mem_of_getElem? (i := 827) rfl) rfl
theorem gy_X7_ofTwo : gv_y yX7_ofTwo 3 := ⟨by decide +kernel, by decide +kernel, by decide +kernel⟩
theorem wd_826 : (Jvm.Cond.static ({ cls := "AlgebraTreeModel", name := "ofTwo", desc := "(III)I" } : Jvm.MethodName)) ∈ gv_tbl := gv_in (List.mem_of_getElem? (i := 826) (by decide +kernel)) rfl
theorem ms_7_78 : gv_MS "AlgebraTreeModel" 78 yX7_ofTwo cX7_ofTwo 6 (some .int) 3 := ⟨wd_827, wd_826, wd_51, gy_X7_ofTwo, Or.inl wd_825⟩
theorem wd_821 : (Jvm.Cond.methodLink "AlgebraTreeModel" (81 : Nat) ({ cls := "AlgebraTreeModel", name := "valueOf", desc := "(I)I" } : Jvm.MethodName)) ∈ gv_tbl := gv_in (List.mem_of_getElem? (i := 821) (by decide +kernel)) rfl
set_option maxRecDepth 100000 in
theorem wd_824 : (Jvm.Cond.code ({ cls := "AlgebraTreeModel", name := "valueOf", desc := "(I)I" } : Jvm.MethodName) prog_9_method_11_code (6 : Nat) (Option.some Jvm.ClassFile.FieldType.int)) ∈ gv_tbl := gv_in (List.mem_of_getElem? (i := 824) rfl) rfl
theorem gy_X7_valueOf : gv_y yX7_valueOf 1 := ⟨by decide +kernel, by decide +kernel, by decide +kernel⟩
theorem wd_823 : (Jvm.Cond.instanceMethod ({ cls := "AlgebraTreeModel", name := "valueOf", desc := "(I)I" } : Jvm.MethodName)) ∈ gv_tbl := gv_in (List.mem_of_getElem? (i := 823) (by decide +kernel)) rfl
theorem wd_33 : (Jvm.Cond.selects "AlgebraTreeModel" ⟨"AlgebraTreeModel", "valueOf", "(I)I"⟩ ⟨"AlgebraTreeModel", "valueOf", "(I)I"⟩) ∈ gv_tbl := gv_in (List.mem_of_getElem? (i := 33) (by decide +kernel)) rfl
theorem mv_7_81 : gv_MV "AlgebraTreeModel" 81 yX7_valueOf cX7_valueOf 6 (some .int) 1 7 := ⟨wd_824, wd_823, wd_33, wd_51, gy_X7_valueOf, Or.inl wd_821, TX7, 15, rfl⟩
theorem wd_706 : (Jvm.Cond.methodLink "AlgebraTreeModel" (88 : Nat) ({ cls := "AlgebraTreeModel", name := "isPart", desc := "(I)Z" } : Jvm.MethodName)) ∈ gv_tbl := gv_in (List.mem_of_getElem? (i := 706) (by decide +kernel)) rfl
set_option maxRecDepth 100000 in
theorem wd_708 : (Jvm.Cond.code ({ cls := "AlgebraTreeModel", name := "isPart", desc := "(I)Z" } : Jvm.MethodName) prog_9_method_15_code (1 : Nat) (Option.some Jvm.ClassFile.FieldType.boolean)) ∈ gv_tbl := gv_in (List.mem_of_getElem? (i := 708) rfl) rfl
theorem gy_X7_isPart : gv_y yX7_isPart 1 := ⟨by decide +kernel, by decide +kernel, by decide +kernel⟩
theorem wd_707 : (Jvm.Cond.static ({ cls := "AlgebraTreeModel", name := "isPart", desc := "(I)Z" } : Jvm.MethodName)) ∈ gv_tbl := gv_in (List.mem_of_getElem? (i := 707) (by decide +kernel)) rfl
theorem ms_7_88 : gv_MS "AlgebraTreeModel" 88 yX7_isPart cX7_isPart 1 (some .boolean) 1 := ⟨wd_708, wd_707, wd_51, gy_X7_isPart, Or.inl wd_706⟩
theorem wd_709 : (Jvm.Cond.methodLink "AlgebraTreeModel" (91 : Nat) ({ cls := "AlgebraTreeModel", name := "make", desc := "(ZIIIIII)I" } : Jvm.MethodName)) ∈ gv_tbl := gv_in (List.mem_of_getElem? (i := 709) (by decide +kernel)) rfl
set_option maxRecDepth 100000 in
theorem wd_712 : (Jvm.Cond.code ({ cls := "AlgebraTreeModel", name := "make", desc := "(ZIIIIII)I" } : Jvm.MethodName) prog_9_method_14_code (9 : Nat) (Option.some Jvm.ClassFile.FieldType.int)) ∈ gv_tbl := gv_in (List.mem_of_getElem? (i := 712) rfl) rfl
theorem gy_X7_make : gv_y yX7_make 7 := ⟨by decide +kernel, by decide +kernel, by decide +kernel⟩
theorem wd_711 : (Jvm.Cond.instanceMethod ({ cls := "AlgebraTreeModel", name := "make", desc := "(ZIIIIII)I" } : Jvm.MethodName)) ∈ gv_tbl := gv_in (List.mem_of_getElem? (i := 711) (by decide +kernel)) rfl
theorem wd_18 : (Jvm.Cond.selects "AlgebraTreeModel" ⟨"AlgebraTreeModel", "make", "(ZIIIIII)I"⟩ ⟨"AlgebraTreeModel", "make", "(ZIIIIII)I"⟩) ∈ gv_tbl := gv_in (List.mem_of_getElem? (i := 18) (by decide +kernel)) rfl
theorem mv_7_91 : gv_MV "AlgebraTreeModel" 91 yX7_make cX7_make 9 (some .int) 7 7 := ⟨wd_712, wd_711, wd_18, wd_51, gy_X7_make, Or.inl wd_709, TX7, 15, rfl⟩
theorem wd_717 : (Jvm.Cond.methodLink "AlgebraTreeModel" (95 : Nat) ({ cls := "AlgebraTreeModel", name := "isNode", desc := "(I)Z" } : Jvm.MethodName)) ∈ gv_tbl := gv_in (List.mem_of_getElem? (i := 717) (by decide +kernel)) rfl
set_option maxRecDepth 100000 in
theorem wd_720 : (Jvm.Cond.code ({ cls := "AlgebraTreeModel", name := "isNode", desc := "(I)Z" } : Jvm.MethodName) prog_9_method_13_code (2 : Nat) (Option.some Jvm.ClassFile.FieldType.boolean)) ∈ gv_tbl := gv_in (List.mem_of_getElem? (i := 720) rfl) rfl
theorem gy_X7_isNode : gv_y yX7_isNode 1 := ⟨by decide +kernel, by decide +kernel, by decide +kernel⟩
theorem wd_719 : (Jvm.Cond.instanceMethod ({ cls := "AlgebraTreeModel", name := "isNode", desc := "(I)Z" } : Jvm.MethodName)) ∈ gv_tbl := gv_in (List.mem_of_getElem? (i := 719) (by decide +kernel)) rfl
theorem wd_19 : (Jvm.Cond.selects "AlgebraTreeModel" ⟨"AlgebraTreeModel", "isNode", "(I)Z"⟩ ⟨"AlgebraTreeModel", "isNode", "(I)Z"⟩) ∈ gv_tbl := gv_in (List.mem_of_getElem? (i := 19) (by decide +kernel)) rfl
theorem mv_7_95 : gv_MV "AlgebraTreeModel" 95 yX7_isNode cX7_isNode 2 (some .boolean) 1 7 := ⟨wd_720, wd_719, wd_19, wd_51, gy_X7_isNode, Or.inl wd_717, TX7, 15, rfl⟩
theorem wd_805 : (Jvm.Cond.methodLink "AlgebraTreeModel" (98 : Nat) ({ cls := "AlgebraTreeModel", name := "cell", desc := "(III)I" } : Jvm.MethodName)) ∈ gv_tbl := gv_in (List.mem_of_getElem? (i := 805) (by decide +kernel)) rfl
set_option maxRecDepth 100000 in
theorem wd_808 : (Jvm.Cond.code ({ cls := "AlgebraTreeModel", name := "cell", desc := "(III)I" } : Jvm.MethodName) prog_9_method_29_code (4 : Nat) (Option.some Jvm.ClassFile.FieldType.int)) ∈ gv_tbl := gv_in (List.mem_of_getElem? (i := 808) rfl) rfl
theorem gy_X7_cell : gv_y yX7_cell 3 := ⟨by decide +kernel, by decide +kernel, by decide +kernel⟩
theorem wd_807 : (Jvm.Cond.instanceMethod ({ cls := "AlgebraTreeModel", name := "cell", desc := "(III)I" } : Jvm.MethodName)) ∈ gv_tbl := gv_in (List.mem_of_getElem? (i := 807) (by decide +kernel)) rfl
theorem wd_29 : (Jvm.Cond.selects "AlgebraTreeModel" ⟨"AlgebraTreeModel", "cell", "(III)I"⟩ ⟨"AlgebraTreeModel", "cell", "(III)I"⟩) ∈ gv_tbl := gv_in (List.mem_of_getElem? (i := 29) (by decide +kernel)) rfl
theorem mv_7_98 : gv_MV "AlgebraTreeModel" 98 yX7_cell cX7_cell 4 (some .int) 3 7 := ⟨wd_808, wd_807, wd_29, wd_51, gy_X7_cell, Or.inl wd_805, TX7, 15, rfl⟩
theorem wd_813 : (Jvm.Cond.methodLink "AlgebraTreeModel" (101 : Nat) ({ cls := "AlgebraTreeModel", name := "take", desc := "(II)V" } : Jvm.MethodName)) ∈ gv_tbl := gv_in (List.mem_of_getElem? (i := 813) (by decide +kernel)) rfl
set_option maxRecDepth 100000 in
theorem wd_816 : (Jvm.Cond.code ({ cls := "AlgebraTreeModel", name := "take", desc := "(II)V" } : Jvm.MethodName) prog_9_method_30_code (4 : Nat) (Option.none : Option Jvm.ClassFile.FieldType)) ∈ gv_tbl := gv_in (List.mem_of_getElem? (i := 816) rfl) rfl
theorem gy_X7_take : gv_y yX7_take 2 := ⟨by decide +kernel, by decide +kernel, by decide +kernel⟩
theorem wd_815 : (Jvm.Cond.instanceMethod ({ cls := "AlgebraTreeModel", name := "take", desc := "(II)V" } : Jvm.MethodName)) ∈ gv_tbl := gv_in (List.mem_of_getElem? (i := 815) (by decide +kernel)) rfl
theorem wd_31 : (Jvm.Cond.selects "AlgebraTreeModel" ⟨"AlgebraTreeModel", "take", "(II)V"⟩ ⟨"AlgebraTreeModel", "take", "(II)V"⟩) ∈ gv_tbl := gv_in (List.mem_of_getElem? (i := 31) (by decide +kernel)) rfl
theorem mv_7_101 : gv_MV "AlgebraTreeModel" 101 yX7_take cX7_take 4 none 2 7 := ⟨wd_816, wd_815, wd_31, wd_51, gy_X7_take, Or.inl wd_813, TX7, 15, rfl⟩
theorem wd_780 : (Jvm.Cond.methodLink "AlgebraTreeModel" (105 : Nat) ({ cls := "AlgebraTreeModel", name := "open", desc := "()V" } : Jvm.MethodName)) ∈ gv_tbl := gv_in (List.mem_of_getElem? (i := 780) (by decide +kernel)) rfl
set_option maxRecDepth 100000 in
theorem wd_783 : (Jvm.Cond.code ({ cls := "AlgebraTreeModel", name := "open", desc := "()V" } : Jvm.MethodName) prog_9_method_31_code (2 : Nat) (Option.none : Option Jvm.ClassFile.FieldType)) ∈ gv_tbl := gv_in (List.mem_of_getElem? (i := 783) rfl) rfl
theorem gy_X7_open : gv_y yX7_open 0 := ⟨by decide +kernel, by decide +kernel, by decide +kernel⟩
theorem wd_782 : (Jvm.Cond.instanceMethod ({ cls := "AlgebraTreeModel", name := "open", desc := "()V" } : Jvm.MethodName)) ∈ gv_tbl := gv_in (List.mem_of_getElem? (i := 782) (by decide +kernel)) rfl
theorem wd_23 : (Jvm.Cond.selects "AlgebraTreeModel" ⟨"AlgebraTreeModel", "open", "()V"⟩ ⟨"AlgebraTreeModel", "open", "()V"⟩) ∈ gv_tbl := gv_in (List.mem_of_getElem? (i := 23) (by decide +kernel)) rfl
theorem mv_7_105 : gv_MV "AlgebraTreeModel" 105 yX7_open cX7_open 2 none 0 7 := ⟨wd_783, wd_782, wd_23, wd_51, gy_X7_open, Or.inl wd_780, TX7, 15, rfl⟩
theorem wd_785 : (Jvm.Cond.methodLink "AlgebraTreeModel" (108 : Nat) ({ cls := "AlgebraTreeModel", name := "fits", desc := "(II)Z" } : Jvm.MethodName)) ∈ gv_tbl := gv_in (List.mem_of_getElem? (i := 785) (by decide +kernel)) rfl
set_option maxRecDepth 100000 in
theorem wd_788 : (Jvm.Cond.code ({ cls := "AlgebraTreeModel", name := "fits", desc := "(II)Z" } : Jvm.MethodName) prog_9_method_37_code (5 : Nat) (Option.some Jvm.ClassFile.FieldType.boolean)) ∈ gv_tbl := gv_in (List.mem_of_getElem? (i := 788) rfl) rfl
theorem gy_X7_fits : gv_y yX7_fits 2 := ⟨by decide +kernel, by decide +kernel, by decide +kernel⟩
theorem wd_787 : (Jvm.Cond.instanceMethod ({ cls := "AlgebraTreeModel", name := "fits", desc := "(II)Z" } : Jvm.MethodName)) ∈ gv_tbl := gv_in (List.mem_of_getElem? (i := 787) (by decide +kernel)) rfl
theorem wd_24 : (Jvm.Cond.selects "AlgebraTreeModel" ⟨"AlgebraTreeModel", "fits", "(II)Z"⟩ ⟨"AlgebraTreeModel", "fits", "(II)Z"⟩) ∈ gv_tbl := gv_in (List.mem_of_getElem? (i := 24) (by decide +kernel)) rfl
theorem mv_7_108 : gv_MV "AlgebraTreeModel" 108 yX7_fits cX7_fits 5 (some .boolean) 2 7 := ⟨wd_788, wd_787, wd_24, wd_51, gy_X7_fits, Or.inl wd_785, TX7, 15, rfl⟩
theorem wd_789 : (Jvm.Cond.methodLink "AlgebraTreeModel" (112 : Nat) ({ cls := "AlgebraTreeModel", name := "add", desc := "(I)V" } : Jvm.MethodName)) ∈ gv_tbl := gv_in (List.mem_of_getElem? (i := 789) (by decide +kernel)) rfl
set_option maxRecDepth 100000 in
theorem wd_792 : (Jvm.Cond.code ({ cls := "AlgebraTreeModel", name := "add", desc := "(I)V" } : Jvm.MethodName) prog_9_method_32_code (3 : Nat) (Option.none : Option Jvm.ClassFile.FieldType)) ∈ gv_tbl := gv_in (List.mem_of_getElem? (i := 792) rfl) rfl
theorem gy_X7_add : gv_y yX7_add 1 := ⟨by decide +kernel, by decide +kernel, by decide +kernel⟩
theorem wd_791 : (Jvm.Cond.instanceMethod ({ cls := "AlgebraTreeModel", name := "add", desc := "(I)V" } : Jvm.MethodName)) ∈ gv_tbl := gv_in (List.mem_of_getElem? (i := 791) (by decide +kernel)) rfl
theorem wd_25 : (Jvm.Cond.selects "AlgebraTreeModel" ⟨"AlgebraTreeModel", "add", "(I)V"⟩ ⟨"AlgebraTreeModel", "add", "(I)V"⟩) ∈ gv_tbl := gv_in (List.mem_of_getElem? (i := 25) (by decide +kernel)) rfl
theorem mv_7_112 : gv_MV "AlgebraTreeModel" 112 yX7_add cX7_add 3 none 1 7 := ⟨wd_792, wd_791, wd_25, wd_51, gy_X7_add, Or.inl wd_789, TX7, 15, rfl⟩
theorem wd_801 : (Jvm.Cond.methodLink "AlgebraTreeModel" (116 : Nat) ({ cls := "AlgebraTreeModel", name := "agree", desc := "(IIII)Z" } : Jvm.MethodName)) ∈ gv_tbl := gv_in (List.mem_of_getElem? (i := 801) (by decide +kernel)) rfl
set_option maxRecDepth 100000 in
theorem wd_804 : (Jvm.Cond.code ({ cls := "AlgebraTreeModel", name := "agree", desc := "(IIII)Z" } : Jvm.MethodName) prog_9_method_33_code (6 : Nat) (Option.some Jvm.ClassFile.FieldType.boolean)) ∈ gv_tbl := gv_in (List.mem_of_getElem? (i := 804) rfl) rfl
theorem gy_X7_agree : gv_y yX7_agree 4 := ⟨by decide +kernel, by decide +kernel, by decide +kernel⟩
theorem wd_803 : (Jvm.Cond.instanceMethod ({ cls := "AlgebraTreeModel", name := "agree", desc := "(IIII)Z" } : Jvm.MethodName)) ∈ gv_tbl := gv_in (List.mem_of_getElem? (i := 803) (by decide +kernel)) rfl
theorem wd_28 : (Jvm.Cond.selects "AlgebraTreeModel" ⟨"AlgebraTreeModel", "agree", "(IIII)Z"⟩ ⟨"AlgebraTreeModel", "agree", "(IIII)Z"⟩) ∈ gv_tbl := gv_in (List.mem_of_getElem? (i := 28) (by decide +kernel)) rfl
theorem mv_7_116 : gv_MV "AlgebraTreeModel" 116 yX7_agree cX7_agree 6 (some .boolean) 4 7 := ⟨wd_804, wd_803, wd_28, wd_51, gy_X7_agree, Or.inl wd_801, TX7, 15, rfl⟩
theorem wd_809 : (Jvm.Cond.methodLink "AlgebraTreeModel" (120 : Nat) ({ cls := "AlgebraTreeModel", name := "together", desc := "(IIII)V" } : Jvm.MethodName)) ∈ gv_tbl := gv_in (List.mem_of_getElem? (i := 809) (by decide +kernel)) rfl
set_option maxRecDepth 100000 in
theorem wd_812 : (Jvm.Cond.code ({ cls := "AlgebraTreeModel", name := "together", desc := "(IIII)V" } : Jvm.MethodName) prog_9_method_36_code (6 : Nat) (Option.none : Option Jvm.ClassFile.FieldType)) ∈ gv_tbl := gv_in (List.mem_of_getElem? (i := 812) rfl) rfl
theorem gy_X7_together : gv_y yX7_together 4 := ⟨by decide +kernel, by decide +kernel, by decide +kernel⟩
theorem wd_811 : (Jvm.Cond.instanceMethod ({ cls := "AlgebraTreeModel", name := "together", desc := "(IIII)V" } : Jvm.MethodName)) ∈ gv_tbl := gv_in (List.mem_of_getElem? (i := 811) (by decide +kernel)) rfl
theorem wd_30 : (Jvm.Cond.selects "AlgebraTreeModel" ⟨"AlgebraTreeModel", "together", "(IIII)V"⟩ ⟨"AlgebraTreeModel", "together", "(IIII)V"⟩) ∈ gv_tbl := gv_in (List.mem_of_getElem? (i := 30) (by decide +kernel)) rfl
theorem mv_7_120 : gv_MV "AlgebraTreeModel" 120 yX7_together cX7_together 6 none 4 7 := ⟨wd_812, wd_811, wd_30, wd_51, gy_X7_together, Or.inl wd_809, TX7, 15, rfl⟩
theorem wd_817 : (Jvm.Cond.methodLink "AlgebraTreeModel" (124 : Nat) ({ cls := "AlgebraTreeModel", name := "isTrue", desc := "(I)Z" } : Jvm.MethodName)) ∈ gv_tbl := gv_in (List.mem_of_getElem? (i := 817) (by decide +kernel)) rfl
set_option maxRecDepth 100000 in
theorem wd_820 : (Jvm.Cond.code ({ cls := "AlgebraTreeModel", name := "isTrue", desc := "(I)Z" } : Jvm.MethodName) prog_9_method_12_code (3 : Nat) (Option.some Jvm.ClassFile.FieldType.boolean)) ∈ gv_tbl := gv_in (List.mem_of_getElem? (i := 820) rfl) rfl
theorem gy_X7_isTrue : gv_y yX7_isTrue 1 := ⟨by decide +kernel, by decide +kernel, by decide +kernel⟩
theorem wd_819 : (Jvm.Cond.instanceMethod ({ cls := "AlgebraTreeModel", name := "isTrue", desc := "(I)Z" } : Jvm.MethodName)) ∈ gv_tbl := gv_in (List.mem_of_getElem? (i := 819) (by decide +kernel)) rfl
theorem wd_32 : (Jvm.Cond.selects "AlgebraTreeModel" ⟨"AlgebraTreeModel", "isTrue", "(I)Z"⟩ ⟨"AlgebraTreeModel", "isTrue", "(I)Z"⟩) ∈ gv_tbl := gv_in (List.mem_of_getElem? (i := 32) (by decide +kernel)) rfl
theorem mv_7_124 : gv_MV "AlgebraTreeModel" 124 yX7_isTrue cX7_isTrue 3 (some .boolean) 1 7 := ⟨wd_820, wd_819, wd_32, wd_51, gy_X7_isTrue, Or.inl wd_817, TX7, 15, rfl⟩
theorem wd_845 : (Jvm.Cond.methodLink "AlgebraTreeModel" (127 : Nat) ({ cls := "AlgebraTreeModel", name := "share", desc := "(IIII)Z" } : Jvm.MethodName)) ∈ gv_tbl := gv_in (List.mem_of_getElem? (i := 845) (by decide +kernel)) rfl
set_option maxRecDepth 100000 in
theorem wd_848 : (Jvm.Cond.code ({ cls := "AlgebraTreeModel", name := "share", desc := "(IIII)Z" } : Jvm.MethodName) prog_9_method_34_code (6 : Nat) (Option.some Jvm.ClassFile.FieldType.boolean)) ∈ gv_tbl := gv_in (List.mem_of_getElem? (i := 848) rfl) rfl
theorem gy_X7_share : gv_y yX7_share 4 := ⟨by decide +kernel, by decide +kernel, by decide +kernel⟩
theorem wd_847 : (Jvm.Cond.instanceMethod ({ cls := "AlgebraTreeModel", name := "share", desc := "(IIII)Z" } : Jvm.MethodName)) ∈ gv_tbl := gv_in (List.mem_of_getElem? (i := 847) (by decide +kernel)) rfl
theorem wd_37 : (Jvm.Cond.selects "AlgebraTreeModel" ⟨"AlgebraTreeModel", "share", "(IIII)Z"⟩ ⟨"AlgebraTreeModel", "share", "(IIII)Z"⟩) ∈ gv_tbl := gv_in (List.mem_of_getElem? (i := 37) (by decide +kernel)) rfl
theorem mv_7_127 : gv_MV "AlgebraTreeModel" 127 yX7_share cX7_share 6 (some .boolean) 4 7 := ⟨wd_848, wd_847, wd_37, wd_51, gy_X7_share, Or.inl wd_845, TX7, 15, rfl⟩
theorem wd_837 : (Jvm.Cond.methodLink "AlgebraTreeModel" (130 : Nat) ({ cls := "AlgebraTreeModel", name := "alike", desc := "(IIIII)Z" } : Jvm.MethodName)) ∈ gv_tbl := gv_in (List.mem_of_getElem? (i := 837) (by decide +kernel)) rfl
set_option maxRecDepth 100000 in
theorem wd_840 : (Jvm.Cond.code ({ cls := "AlgebraTreeModel", name := "alike", desc := "(IIIII)Z" } : Jvm.MethodName) prog_9_method_35_code (7 : Nat) (Option.some Jvm.ClassFile.FieldType.boolean)) ∈ gv_tbl := gv_in (List.mem_of_getElem? (i := 840) rfl) rfl
theorem gy_X7_alike : gv_y yX7_alike 5 := ⟨by decide +kernel, by decide +kernel, by decide +kernel⟩
theorem wd_839 : (Jvm.Cond.instanceMethod ({ cls := "AlgebraTreeModel", name := "alike", desc := "(IIIII)Z" } : Jvm.MethodName)) ∈ gv_tbl := gv_in (List.mem_of_getElem? (i := 839) (by decide +kernel)) rfl
theorem wd_35 : (Jvm.Cond.selects "AlgebraTreeModel" ⟨"AlgebraTreeModel", "alike", "(IIIII)Z"⟩ ⟨"AlgebraTreeModel", "alike", "(IIIII)Z"⟩) ∈ gv_tbl := gv_in (List.mem_of_getElem? (i := 35) (by decide +kernel)) rfl
theorem mv_7_130 : gv_MV "AlgebraTreeModel" 130 yX7_alike cX7_alike 7 (some .boolean) 5 7 := ⟨wd_840, wd_839, wd_35, wd_51, gy_X7_alike, Or.inl wd_837, TX7, 15, rfl⟩
theorem wd_857 : (Jvm.Cond.methodLink "AlgebraTreeModel" (136 : Nat) ({ cls := "AlgebraTreeModel", name := "folded", desc := "(IIIII)I" } : Jvm.MethodName)) ∈ gv_tbl := gv_in (List.mem_of_getElem? (i := 857) (by decide +kernel)) rfl
set_option maxRecDepth 100000 in
theorem wd_860 : (Jvm.Cond.code ({ cls := "AlgebraTreeModel", name := "folded", desc := "(IIIII)I" } : Jvm.MethodName) prog_9_method_43_code (14 : Nat) (Option.some Jvm.ClassFile.FieldType.int)) ∈ gv_tbl := gv_in (List.mem_of_getElem? (i := 860) rfl) rfl
theorem gy_X7_folded : gv_y yX7_folded 5 := ⟨by decide +kernel, by decide +kernel, by decide +kernel⟩
theorem wd_859 : (Jvm.Cond.instanceMethod ({ cls := "AlgebraTreeModel", name := "folded", desc := "(IIIII)I" } : Jvm.MethodName)) ∈ gv_tbl := gv_in (List.mem_of_getElem? (i := 859) (by decide +kernel)) rfl
theorem wd_40 : (Jvm.Cond.selects "AlgebraTreeModel" ⟨"AlgebraTreeModel", "folded", "(IIIII)I"⟩ ⟨"AlgebraTreeModel", "folded", "(IIIII)I"⟩) ∈ gv_tbl := gv_in (List.mem_of_getElem? (i := 40) (by decide +kernel)) rfl
theorem mv_7_136 : gv_MV "AlgebraTreeModel" 136 yX7_folded cX7_folded 14 (some .int) 5 7 := ⟨wd_860, wd_859, wd_40, wd_51, gy_X7_folded, Or.inl wd_857, TX7, 15, rfl⟩
theorem wd_773 : (Jvm.Cond.methodLink "AlgebraTreeModel" (140 : Nat) ({ cls := "AlgebraTreeModel", name := "table", desc := "(II)I" } : Jvm.MethodName)) ∈ gv_tbl := gv_in (List.mem_of_getElem? (i := 773) (by decide +kernel)) rfl
set_option maxRecDepth 100000 in
theorem wd_775 : (Jvm.Cond.code ({ cls := "AlgebraTreeModel", name := "table", desc := "(II)I" } : Jvm.MethodName) prog_9_method_28_code (2 : Nat) (Option.some Jvm.ClassFile.FieldType.int)) ∈ gv_tbl := gv_in (List.mem_of_getElem? (i := 775) rfl) rfl
theorem gy_X7_table : gv_y yX7_table 2 := ⟨by decide +kernel, by decide +kernel, by decide +kernel⟩
theorem wd_774 : (Jvm.Cond.static ({ cls := "AlgebraTreeModel", name := "table", desc := "(II)I" } : Jvm.MethodName)) ∈ gv_tbl := gv_in (List.mem_of_getElem? (i := 774) (by decide +kernel)) rfl
theorem ms_7_140 : gv_MS "AlgebraTreeModel" 140 yX7_table cX7_table 2 (some .int) 2 := ⟨wd_775, wd_774, wd_51, gy_X7_table, Or.inl wd_773⟩
theorem wd_776 : (Jvm.Cond.methodLink "AlgebraTreeModel" (144 : Nat) ({ cls := "AlgebraTreeModel", name := "reckonPattern", desc := "(III)V" } : Jvm.MethodName)) ∈ gv_tbl := gv_in (List.mem_of_getElem? (i := 776) (by decide +kernel)) rfl
set_option maxRecDepth 100000 in
theorem wd_779 : (Jvm.Cond.code ({ cls := "AlgebraTreeModel", name := "reckonPattern", desc := "(III)V" } : Jvm.MethodName) prog_9_method_38_code (7 : Nat) (Option.none : Option Jvm.ClassFile.FieldType)) ∈ gv_tbl := gv_in (List.mem_of_getElem? (i := 779) rfl) rfl
theorem gy_X7_reckonPattern : gv_y yX7_reckonPattern 3 := ⟨by decide +kernel, by decide +kernel, by decide +kernel⟩
theorem wd_778 : (Jvm.Cond.instanceMethod ({ cls := "AlgebraTreeModel", name := "reckonPattern", desc := "(III)V" } : Jvm.MethodName)) ∈ gv_tbl := gv_in (List.mem_of_getElem? (i := 778) (by decide +kernel)) rfl
theorem wd_22 : (Jvm.Cond.selects "AlgebraTreeModel" ⟨"AlgebraTreeModel", "reckonPattern", "(III)V"⟩ ⟨"AlgebraTreeModel", "reckonPattern", "(III)V"⟩) ∈ gv_tbl := gv_in (List.mem_of_getElem? (i := 22) (by decide +kernel)) rfl
theorem mv_7_144 : gv_MV "AlgebraTreeModel" 144 yX7_reckonPattern cX7_reckonPattern 7 none 3 7 := ⟨wd_779, wd_778, wd_22, wd_51, gy_X7_reckonPattern, Or.inl wd_776, TX7, 15, rfl⟩
theorem wd_793 : (Jvm.Cond.methodLink "AlgebraTreeModel" (148 : Nat) ({ cls := "AlgebraTreeModel", name := "isLong", desc := "(II)Z" } : Jvm.MethodName)) ∈ gv_tbl := gv_in (List.mem_of_getElem? (i := 793) (by decide +kernel)) rfl
set_option maxRecDepth 100000 in
theorem wd_796 : (Jvm.Cond.code ({ cls := "AlgebraTreeModel", name := "isLong", desc := "(II)Z" } : Jvm.MethodName) prog_9_method_46_code (3 : Nat) (Option.some Jvm.ClassFile.FieldType.boolean)) ∈ gv_tbl := gv_in (List.mem_of_getElem? (i := 796) rfl) rfl
theorem gy_X7_isLong : gv_y yX7_isLong 2 := ⟨by decide +kernel, by decide +kernel, by decide +kernel⟩
theorem wd_795 : (Jvm.Cond.instanceMethod ({ cls := "AlgebraTreeModel", name := "isLong", desc := "(II)Z" } : Jvm.MethodName)) ∈ gv_tbl := gv_in (List.mem_of_getElem? (i := 795) (by decide +kernel)) rfl
theorem wd_26 : (Jvm.Cond.selects "AlgebraTreeModel" ⟨"AlgebraTreeModel", "isLong", "(II)Z"⟩ ⟨"AlgebraTreeModel", "isLong", "(II)Z"⟩) ∈ gv_tbl := gv_in (List.mem_of_getElem? (i := 26) (by decide +kernel)) rfl
theorem mv_7_148 : gv_MV "AlgebraTreeModel" 148 yX7_isLong cX7_isLong 3 (some .boolean) 2 7 := ⟨wd_796, wd_795, wd_26, wd_51, gy_X7_isLong, Or.inl wd_793, TX7, 15, rfl⟩
theorem wd_797 : (Jvm.Cond.methodLink "AlgebraTreeModel" (151 : Nat) ({ cls := "AlgebraTreeModel", name := "reckonPairs", desc := "(IIIZI)V" } : Jvm.MethodName)) ∈ gv_tbl := gv_in (List.mem_of_getElem? (i := 797) (by decide +kernel)) rfl
set_option maxRecDepth 100000 in
theorem wd_800 : (Jvm.Cond.code ({ cls := "AlgebraTreeModel", name := "reckonPairs", desc := "(IIIZI)V" } : Jvm.MethodName) prog_9_method_39_code (9 : Nat) (Option.none : Option Jvm.ClassFile.FieldType)) ∈ gv_tbl := gv_in (List.mem_of_getElem? (i := 800) rfl) rfl
theorem gy_X7_reckonPairs : gv_y yX7_reckonPairs 5 := ⟨by decide +kernel, by decide +kernel, by decide +kernel⟩
theorem wd_799 : (Jvm.Cond.instanceMethod ({ cls := "AlgebraTreeModel", name := "reckonPairs", desc := "(IIIZI)V" } : Jvm.MethodName)) ∈ gv_tbl := gv_in (List.mem_of_getElem? (i := 799) (by decide +kernel)) rfl
theorem wd_27 : (Jvm.Cond.selects "AlgebraTreeModel" ⟨"AlgebraTreeModel", "reckonPairs", "(IIIZI)V"⟩ ⟨"AlgebraTreeModel", "reckonPairs", "(IIIZI)V"⟩) ∈ gv_tbl := gv_in (List.mem_of_getElem? (i := 27) (by decide +kernel)) rfl
theorem mv_7_151 : gv_MV "AlgebraTreeModel" 151 yX7_reckonPairs cX7_reckonPairs 9 none 5 7 := ⟨wd_800, wd_799, wd_27, wd_51, gy_X7_reckonPairs, Or.inl wd_797, TX7, 15, rfl⟩
theorem wd_833 : (Jvm.Cond.methodLink "AlgebraTreeModel" (155 : Nat) ({ cls := "AlgebraTreeModel", name := "reckonEach", desc := "(IIIII)V" } : Jvm.MethodName)) ∈ gv_tbl := gv_in (List.mem_of_getElem? (i := 833) (by decide +kernel)) rfl
set_option maxRecDepth 100000 in
theorem wd_836 : (Jvm.Cond.code ({ cls := "AlgebraTreeModel", name := "reckonEach", desc := "(IIIII)V" } : Jvm.MethodName) prog_9_method_41_code (9 : Nat) (Option.none : Option Jvm.ClassFile.FieldType)) ∈ gv_tbl := gv_in (List.mem_of_getElem? (i := 836) rfl) rfl
theorem gy_X7_reckonEach : gv_y yX7_reckonEach 5 := ⟨by decide +kernel, by decide +kernel, by decide +kernel⟩
theorem wd_835 : (Jvm.Cond.instanceMethod ({ cls := "AlgebraTreeModel", name := "reckonEach", desc := "(IIIII)V" } : Jvm.MethodName)) ∈ gv_tbl := gv_in (List.mem_of_getElem? (i := 835) (by decide +kernel)) rfl
theorem wd_34 : (Jvm.Cond.selects "AlgebraTreeModel" ⟨"AlgebraTreeModel", "reckonEach", "(IIIII)V"⟩ ⟨"AlgebraTreeModel", "reckonEach", "(IIIII)V"⟩) ∈ gv_tbl := gv_in (List.mem_of_getElem? (i := 34) (by decide +kernel)) rfl
theorem mv_7_155 : gv_MV "AlgebraTreeModel" 155 yX7_reckonEach cX7_reckonEach 9 none 5 7 := ⟨wd_836, wd_835, wd_34, wd_51, gy_X7_reckonEach, Or.inl wd_833, TX7, 15, rfl⟩
theorem wd_841 : (Jvm.Cond.methodLink "AlgebraTreeModel" (159 : Nat) ({ cls := "AlgebraTreeModel", name := "reckonMinus", desc := "(III)V" } : Jvm.MethodName)) ∈ gv_tbl := gv_in (List.mem_of_getElem? (i := 841) (by decide +kernel)) rfl
set_option maxRecDepth 100000 in
theorem wd_844 : (Jvm.Cond.code ({ cls := "AlgebraTreeModel", name := "reckonMinus", desc := "(III)V" } : Jvm.MethodName) prog_9_method_40_code (7 : Nat) (Option.none : Option Jvm.ClassFile.FieldType)) ∈ gv_tbl := gv_in (List.mem_of_getElem? (i := 844) rfl) rfl
theorem gy_X7_reckonMinus : gv_y yX7_reckonMinus 3 := ⟨by decide +kernel, by decide +kernel, by decide +kernel⟩
theorem wd_843 : (Jvm.Cond.instanceMethod ({ cls := "AlgebraTreeModel", name := "reckonMinus", desc := "(III)V" } : Jvm.MethodName)) ∈ gv_tbl := gv_in (List.mem_of_getElem? (i := 843) (by decide +kernel)) rfl
theorem wd_36 : (Jvm.Cond.selects "AlgebraTreeModel" ⟨"AlgebraTreeModel", "reckonMinus", "(III)V"⟩ ⟨"AlgebraTreeModel", "reckonMinus", "(III)V"⟩) ∈ gv_tbl := gv_in (List.mem_of_getElem? (i := 36) (by decide +kernel)) rfl
theorem mv_7_159 : gv_MV "AlgebraTreeModel" 159 yX7_reckonMinus cX7_reckonMinus 7 none 3 7 := ⟨wd_844, wd_843, wd_36, wd_51, gy_X7_reckonMinus, Or.inl wd_841, TX7, 15, rfl⟩
theorem wd_849 : (Jvm.Cond.methodLink "AlgebraTreeModel" (162 : Nat) ({ cls := "AlgebraTreeModel", name := "reckonOrder", desc := "(IIIZ)V" } : Jvm.MethodName)) ∈ gv_tbl := gv_in (List.mem_of_getElem? (i := 849) (by decide +kernel)) rfl
set_option maxRecDepth 100000 in
theorem wd_852 : (Jvm.Cond.code ({ cls := "AlgebraTreeModel", name := "reckonOrder", desc := "(IIIZ)V" } : Jvm.MethodName) prog_9_method_42_code (9 : Nat) (Option.none : Option Jvm.ClassFile.FieldType)) ∈ gv_tbl := gv_in (List.mem_of_getElem? (i := 852) rfl) rfl
theorem gy_X7_reckonOrder : gv_y yX7_reckonOrder 4 := ⟨by decide +kernel, by decide +kernel, by decide +kernel⟩
theorem wd_851 : (Jvm.Cond.instanceMethod ({ cls := "AlgebraTreeModel", name := "reckonOrder", desc := "(IIIZ)V" } : Jvm.MethodName)) ∈ gv_tbl := gv_in (List.mem_of_getElem? (i := 851) (by decide +kernel)) rfl
theorem wd_38 : (Jvm.Cond.selects "AlgebraTreeModel" ⟨"AlgebraTreeModel", "reckonOrder", "(IIIZ)V"⟩ ⟨"AlgebraTreeModel", "reckonOrder", "(IIIZ)V"⟩) ∈ gv_tbl := gv_in (List.mem_of_getElem? (i := 38) (by decide +kernel)) rfl
theorem mv_7_162 : gv_MV "AlgebraTreeModel" 162 yX7_reckonOrder cX7_reckonOrder 9 none 4 7 := ⟨wd_852, wd_851, wd_38, wd_51, gy_X7_reckonOrder, Or.inl wd_849, TX7, 15, rfl⟩
theorem wd_853 : (Jvm.Cond.methodLink "AlgebraTreeModel" (166 : Nat) ({ cls := "AlgebraTreeModel", name := "reckonGroup", desc := "(III)V" } : Jvm.MethodName)) ∈ gv_tbl := gv_in (List.mem_of_getElem? (i := 853) (by decide +kernel)) rfl
set_option maxRecDepth 100000 in
theorem wd_856 : (Jvm.Cond.code ({ cls := "AlgebraTreeModel", name := "reckonGroup", desc := "(III)V" } : Jvm.MethodName) prog_9_method_44_code (9 : Nat) (Option.none : Option Jvm.ClassFile.FieldType)) ∈ gv_tbl := gv_in (List.mem_of_getElem? (i := 856) rfl) rfl
theorem gy_X7_reckonGroup : gv_y yX7_reckonGroup 3 := ⟨by decide +kernel, by decide +kernel, by decide +kernel⟩
theorem wd_855 : (Jvm.Cond.instanceMethod ({ cls := "AlgebraTreeModel", name := "reckonGroup", desc := "(III)V" } : Jvm.MethodName)) ∈ gv_tbl := gv_in (List.mem_of_getElem? (i := 855) (by decide +kernel)) rfl
theorem wd_39 : (Jvm.Cond.selects "AlgebraTreeModel" ⟨"AlgebraTreeModel", "reckonGroup", "(III)V"⟩ ⟨"AlgebraTreeModel", "reckonGroup", "(III)V"⟩) ∈ gv_tbl := gv_in (List.mem_of_getElem? (i := 39) (by decide +kernel)) rfl
theorem mv_7_166 : gv_MV "AlgebraTreeModel" 166 yX7_reckonGroup cX7_reckonGroup 9 none 3 7 := ⟨wd_856, wd_855, wd_39, wd_51, gy_X7_reckonGroup, Or.inl wd_853, TX7, 15, rfl⟩
theorem wd_863 : (Jvm.Cond.methodLink "AlgebraTreeModel" (169 : Nat) ({ cls := "AlgebraTreeModel", name := "reckonGraphs", desc := "(III)V" } : Jvm.MethodName)) ∈ gv_tbl := gv_in (List.mem_of_getElem? (i := 863) (by decide +kernel)) rfl
set_option maxRecDepth 100000 in
theorem wd_866 : (Jvm.Cond.code ({ cls := "AlgebraTreeModel", name := "reckonGraphs", desc := "(III)V" } : Jvm.MethodName) prog_9_method_45_code (7 : Nat) (Option.none : Option Jvm.ClassFile.FieldType)) ∈ gv_tbl := gv_in (List.mem_of_getElem? (i := 866) rfl) rfl
theorem gy_X7_reckonGraphs : gv_y yX7_reckonGraphs 3 := ⟨by decide +kernel, by decide +kernel, by decide +kernel⟩
theorem wd_865 : (Jvm.Cond.instanceMethod ({ cls := "AlgebraTreeModel", name := "reckonGraphs", desc := "(III)V" } : Jvm.MethodName)) ∈ gv_tbl := gv_in (List.mem_of_getElem? (i := 865) (by decide +kernel)) rfl
theorem wd_41 : (Jvm.Cond.selects "AlgebraTreeModel" ⟨"AlgebraTreeModel", "reckonGraphs", "(III)V"⟩ ⟨"AlgebraTreeModel", "reckonGraphs", "(III)V"⟩) ∈ gv_tbl := gv_in (List.mem_of_getElem? (i := 41) (by decide +kernel)) rfl
theorem mv_7_169 : gv_MV "AlgebraTreeModel" 169 yX7_reckonGraphs cX7_reckonGraphs 7 none 3 7 := ⟨wd_866, wd_865, wd_41, wd_51, gy_X7_reckonGraphs, Or.inl wd_863, TX7, 15, rfl⟩
theorem wd_769 : (Jvm.Cond.methodLink "AlgebraTreeModel" (172 : Nat) ({ cls := "AlgebraTreeModel", name := "reckon", desc := "(II)V" } : Jvm.MethodName)) ∈ gv_tbl := gv_in (List.mem_of_getElem? (i := 769) (by decide +kernel)) rfl
set_option maxRecDepth 100000 in
theorem wd_772 : (Jvm.Cond.code ({ cls := "AlgebraTreeModel", name := "reckon", desc := "(II)V" } : Jvm.MethodName) prog_9_method_47_code (11 : Nat) (Option.none : Option Jvm.ClassFile.FieldType)) ∈ gv_tbl := gv_in (List.mem_of_getElem? (i := 772) rfl) rfl
theorem gy_X7_reckon : gv_y yX7_reckon 2 := ⟨by decide +kernel, by decide +kernel, by decide +kernel⟩
theorem wd_771 : (Jvm.Cond.instanceMethod ({ cls := "AlgebraTreeModel", name := "reckon", desc := "(II)V" } : Jvm.MethodName)) ∈ gv_tbl := gv_in (List.mem_of_getElem? (i := 771) (by decide +kernel)) rfl
theorem wd_21 : (Jvm.Cond.selects "AlgebraTreeModel" ⟨"AlgebraTreeModel", "reckon", "(II)V"⟩ ⟨"AlgebraTreeModel", "reckon", "(II)V"⟩) ∈ gv_tbl := gv_in (List.mem_of_getElem? (i := 21) (by decide +kernel)) rfl
theorem mv_7_172 : gv_MV "AlgebraTreeModel" 172 yX7_reckon cX7_reckon 11 none 2 7 := ⟨wd_772, wd_771, wd_21, wd_51, gy_X7_reckon, Or.inl wd_769, TX7, 15, rfl⟩
theorem wd_765 : (Jvm.Cond.methodLink "AlgebraTreeModel" (175 : Nat) ({ cls := "AlgebraTreeModel", name := "learn", desc := "()V" } : Jvm.MethodName)) ∈ gv_tbl := gv_in (List.mem_of_getElem? (i := 765) (by decide +kernel)) rfl
set_option maxRecDepth 100000 in
theorem wd_768 : (Jvm.Cond.code ({ cls := "AlgebraTreeModel", name := "learn", desc := "()V" } : Jvm.MethodName) prog_9_method_48_code (3 : Nat) (Option.none : Option Jvm.ClassFile.FieldType)) ∈ gv_tbl := gv_in (List.mem_of_getElem? (i := 768) rfl) rfl
theorem gy_X7_learn : gv_y yX7_learn 0 := ⟨by decide +kernel, by decide +kernel, by decide +kernel⟩
theorem wd_767 : (Jvm.Cond.instanceMethod ({ cls := "AlgebraTreeModel", name := "learn", desc := "()V" } : Jvm.MethodName)) ∈ gv_tbl := gv_in (List.mem_of_getElem? (i := 767) (by decide +kernel)) rfl
theorem wd_20 : (Jvm.Cond.selects "AlgebraTreeModel" ⟨"AlgebraTreeModel", "learn", "()V"⟩ ⟨"AlgebraTreeModel", "learn", "()V"⟩) ∈ gv_tbl := gv_in (List.mem_of_getElem? (i := 20) (by decide +kernel)) rfl
theorem mv_7_175 : gv_MV "AlgebraTreeModel" 175 yX7_learn cX7_learn 3 none 0 7 := ⟨wd_768, wd_767, wd_20, wd_51, gy_X7_learn, Or.inl wd_765, TX7, 15, rfl⟩
theorem wd_871 : (Jvm.Cond.methodLink "AlgebraTreeModel" (181 : Nat) ({ cls := "AlgebraTreeModel", name := "isShown", desc := "(I)Z" } : Jvm.MethodName)) ∈ gv_tbl := gv_in (List.mem_of_getElem? (i := 871) (by decide +kernel)) rfl
set_option maxRecDepth 100000 in
theorem wd_874 : (Jvm.Cond.code ({ cls := "AlgebraTreeModel", name := "isShown", desc := "(I)Z" } : Jvm.MethodName) prog_9_method_50_code (2 : Nat) (Option.some Jvm.ClassFile.FieldType.boolean)) ∈ gv_tbl := gv_in (List.mem_of_getElem? (i := 874) rfl) rfl
theorem gy_X7_isShown : gv_y yX7_isShown 1 := ⟨by decide +kernel, by decide +kernel, by decide +kernel⟩
theorem wd_873 : (Jvm.Cond.instanceMethod ({ cls := "AlgebraTreeModel", name := "isShown", desc := "(I)Z" } : Jvm.MethodName)) ∈ gv_tbl := gv_in (List.mem_of_getElem? (i := 873) (by decide +kernel)) rfl
theorem wd_42 : (Jvm.Cond.selects "AlgebraTreeModel" ⟨"AlgebraTreeModel", "isShown", "(I)Z"⟩ ⟨"AlgebraTreeModel", "isShown", "(I)Z"⟩) ∈ gv_tbl := gv_in (List.mem_of_getElem? (i := 42) (by decide +kernel)) rfl
theorem mv_7_181 : gv_MV "AlgebraTreeModel" 181 yX7_isShown cX7_isShown 2 (some .boolean) 1 7 := ⟨wd_874, wd_873, wd_42, wd_51, gy_X7_isShown, Or.inl wd_871, TX7, 15, rfl⟩
theorem wd_887 : (Jvm.Cond.methodLink "AlgebraTreeModel" (184 : Nat) ({ cls := "AlgebraTreeModel", name := "often", desc := "(III)I" } : Jvm.MethodName)) ∈ gv_tbl := gv_in (List.mem_of_getElem? (i := 887) (by decide +kernel)) rfl
set_option maxRecDepth 100000 in
theorem wd_890 : (Jvm.Cond.code ({ cls := "AlgebraTreeModel", name := "often", desc := "(III)I" } : Jvm.MethodName) prog_9_method_54_code (6 : Nat) (Option.some Jvm.ClassFile.FieldType.int)) ∈ gv_tbl := gv_in (List.mem_of_getElem? (i := 890) rfl) rfl
theorem gy_X7_often : gv_y yX7_often 3 := ⟨by decide +kernel, by decide +kernel, by decide +kernel⟩
theorem wd_889 : (Jvm.Cond.instanceMethod ({ cls := "AlgebraTreeModel", name := "often", desc := "(III)I" } : Jvm.MethodName)) ∈ gv_tbl := gv_in (List.mem_of_getElem? (i := 889) (by decide +kernel)) rfl
theorem wd_43 : (Jvm.Cond.selects "AlgebraTreeModel" ⟨"AlgebraTreeModel", "often", "(III)I"⟩ ⟨"AlgebraTreeModel", "often", "(III)I"⟩) ∈ gv_tbl := gv_in (List.mem_of_getElem? (i := 43) (by decide +kernel)) rfl
theorem mv_7_184 : gv_MV "AlgebraTreeModel" 184 yX7_often cX7_often 6 (some .int) 3 7 := ⟨wd_890, wd_889, wd_43, wd_51, gy_X7_often, Or.inl wd_887, TX7, 15, rfl⟩
theorem wd_63 : (Jvm.Cond.classLink "AlgebraTree" (9 : Nat) "AlgebraTree$Maker") ∈ gv_tbl := gv_in (List.mem_of_getElem? (i := 63) (by decide +kernel)) rfl
theorem wd_64 : (Jvm.Cond.instantiable "AlgebraTree$Maker" (7 : Nat)) ∈ gv_tbl := gv_in (List.mem_of_getElem? (i := 64) (by decide +kernel)) rfl
theorem nw_6_9 : gv_N "AlgebraTree" 9 1 [.null, .null, .null, .null, .null, .null, .null] 7 := ⟨RX1, TX1, tyX1, rfl, in_1, tyX1_ok, wd_63, wd_64, wd_46, fun j hj => by rcases (show j = 0 ∨ j = 1 ∨ j = 2 ∨ j = 3 ∨ j = 4 ∨ j = 5 ∨ j = 6 by omega) with rfl | rfl | rfl | rfl | rfl | rfl | rfl <;> rfl⟩
theorem wd_164 : (Jvm.Cond.classLink "AlgebraTree" (31 : Nat) "AlgebraTree$Rows") ∈ gv_tbl := gv_in (List.mem_of_getElem? (i := 164) (by decide +kernel)) rfl
theorem wd_165 : (Jvm.Cond.instantiable "AlgebraTree$Rows" (4 : Nat)) ∈ gv_tbl := gv_in (List.mem_of_getElem? (i := 165) (by decide +kernel)) rfl
theorem nw_6_31 : gv_N "AlgebraTree" 31 4 [.null, .int 0, .int 0, .int 0] 4 := ⟨RX4, TX4, tyX4, rfl, in_4, tyX4_ok, wd_164, wd_165, wd_50, fun j hj => by rcases (show j = 0 ∨ j = 1 ∨ j = 2 ∨ j = 3 by omega) with rfl | rfl | rfl | rfl <;> rfl⟩
theorem wd_265 : (Jvm.Cond.classLink "AlgebraTree" (82 : Nat) "AlgebraTree$Node") ∈ gv_tbl := gv_in (List.mem_of_getElem? (i := 265) (by decide +kernel)) rfl
theorem wd_266 : (Jvm.Cond.instantiable "AlgebraTree$Node" (14 : Nat)) ∈ gv_tbl := gv_in (List.mem_of_getElem? (i := 266) (by decide +kernel)) rfl
theorem nw_6_82 : gv_N "AlgebraTree" 82 2 [.int 0, .int 0, .int 0, .int 0, .int 0, .int 0, .int 0, .int 0, .int 0, .int 0, .int 0, .int 0, .int 0, .int 0] 14 := ⟨RX2, TX2, tyX2, rfl, in_2, tyX2_ok, wd_265, wd_266, wd_52, fun j hj => by rcases (show j = 0 ∨ j = 1 ∨ j = 2 ∨ j = 3 ∨ j = 4 ∨ j = 5 ∨ j = 6 ∨ j = 7 ∨ j = 8 ∨ j = 9 ∨ j = 10 ∨ j = 11 ∨ j = 12 ∨ j = 13 by omega) with rfl | rfl | rfl | rfl | rfl | rfl | rfl | rfl | rfl | rfl | rfl | rfl | rfl | rfl <;> rfl⟩
theorem wd_69 : (Jvm.Cond.classLink "AlgebraTree$Maker" (9 : Nat) "AlgebraTree$Triples") ∈ gv_tbl := gv_in (List.mem_of_getElem? (i := 69) (by decide +kernel)) rfl
theorem wd_70 : (Jvm.Cond.instantiable "AlgebraTree$Triples" (5 : Nat)) ∈ gv_tbl := gv_in (List.mem_of_getElem? (i := 70) (by decide +kernel)) rfl
theorem nw_1_9 : gv_N "AlgebraTree$Maker" 9 5 [.null, .null, .null, .null, .int 0] 5 := ⟨RX5, TX5, tyX5, rfl, in_5, tyX5_ok, wd_69, wd_70, wd_47, fun j hj => by rcases (show j = 0 ∨ j = 1 ∨ j = 2 ∨ j = 3 ∨ j = 4 by omega) with rfl | rfl | rfl | rfl | rfl <;> rfl⟩
theorem wd_97 : (Jvm.Cond.classLink "AlgebraTree$Maker" (18 : Nat) "AlgebraTree$Expressions") ∈ gv_tbl := gv_in (List.mem_of_getElem? (i := 97) (by decide +kernel)) rfl
theorem wd_98 : (Jvm.Cond.instantiable "AlgebraTree$Expressions" (6 : Nat)) ∈ gv_tbl := gv_in (List.mem_of_getElem? (i := 98) (by decide +kernel)) rfl
theorem nw_1_18 : gv_N "AlgebraTree$Maker" 18 0 [.null, .null, .null, .null, .null, .int 0] 6 := ⟨RX0, TX0, tyX0, rfl, in_0, tyX0_ok, wd_97, wd_98, wd_48, fun j hj => by rcases (show j = 0 ∨ j = 1 ∨ j = 2 ∨ j = 3 ∨ j = 4 ∨ j = 5 by omega) with rfl | rfl | rfl | rfl | rfl | rfl <;> rfl⟩
theorem wd_122 : (Jvm.Cond.classLink "AlgebraTree$Maker" (25 : Nat) "AlgebraTree$Nodes") ∈ gv_tbl := gv_in (List.mem_of_getElem? (i := 122) (by decide +kernel)) rfl
theorem wd_123 : (Jvm.Cond.instantiable "AlgebraTree$Nodes" (2 : Nat)) ∈ gv_tbl := gv_in (List.mem_of_getElem? (i := 123) (by decide +kernel)) rfl
theorem nw_1_25 : gv_N "AlgebraTree$Maker" 25 3 [.null, .int 0] 2 := ⟨RX3, TX3, tyX3, rfl, in_3, tyX3_ok, wd_122, wd_123, wd_49, fun j hj => by rcases (show j = 0 ∨ j = 1 by omega) with rfl | rfl <;> rfl⟩
theorem wd_137 : (Jvm.Cond.classLink "AlgebraTree$Maker" (32 : Nat) "AlgebraTree$Rows") ∈ gv_tbl := gv_in (List.mem_of_getElem? (i := 137) (by decide +kernel)) rfl
theorem nw_1_32 : gv_N "AlgebraTree$Maker" 32 4 [.null, .int 0, .int 0, .int 0] 4 := ⟨RX4, TX4, tyX4, rfl, in_4, tyX4_ok, wd_137, wd_165, wd_50, fun j hj => by rcases (show j = 0 ∨ j = 1 ∨ j = 2 ∨ j = 3 by omega) with rfl | rfl | rfl | rfl <;> rfl⟩
theorem wd_128 : (Jvm.Cond.classLink "AlgebraTree$Nodes" (9 : Nat) "AlgebraTree$Node") ∈ gv_tbl := gv_in (List.mem_of_getElem? (i := 128) (by decide +kernel)) rfl
theorem nw_3_9 : gv_N "AlgebraTree$Nodes" 9 2 [.int 0, .int 0, .int 0, .int 0, .int 0, .int 0, .int 0, .int 0, .int 0, .int 0, .int 0, .int 0, .int 0, .int 0] 14 := ⟨RX2, TX2, tyX2, rfl, in_2, tyX2_ok, wd_128, wd_266, wd_52, fun j hj => by rcases (show j = 0 ∨ j = 1 ∨ j = 2 ∨ j = 3 ∨ j = 4 ∨ j = 5 ∨ j = 6 ∨ j = 7 ∨ j = 8 ∨ j = 9 ∨ j = 10 ∨ j = 11 ∨ j = 12 ∨ j = 13 by omega) with rfl | rfl | rfl | rfl | rfl | rfl | rfl | rfl | rfl | rfl | rfl | rfl | rfl | rfl <;> rfl⟩
theorem wd_55 : (Jvm.Cond.classLink "AlgebraTreeLaw" (7 : Nat) "AlgebraTree") ∈ gv_tbl := gv_in (List.mem_of_getElem? (i := 55) (by decide +kernel)) rfl
theorem wd_56 : (Jvm.Cond.instantiable "AlgebraTree" (5 : Nat)) ∈ gv_tbl := gv_in (List.mem_of_getElem? (i := 56) (by decide +kernel)) rfl
theorem nw_L_7 : gv_N "AlgebraTreeLaw" 7 6 [.null, .null, .null, .null, .null] 5 := ⟨RX6, TX6, tyX6, rfl, in_6, tyX6_ok, wd_55, wd_56, wd_45, fun j hj => by rcases (show j = 0 ∨ j = 1 ∨ j = 2 ∨ j = 3 ∨ j = 4 by omega) with rfl | rfl | rfl | rfl | rfl <;> rfl⟩
theorem wd_621 : (Jvm.Cond.classLink "AlgebraTreeLaw" (10 : Nat) "AlgebraTreeModel") ∈ gv_tbl := gv_in (List.mem_of_getElem? (i := 621) (by decide +kernel)) rfl
theorem wd_622 : (Jvm.Cond.instantiable "AlgebraTreeModel" (15 : Nat)) ∈ gv_tbl := gv_in (List.mem_of_getElem? (i := 622) (by decide +kernel)) rfl
theorem nw_L_10 : gv_N "AlgebraTreeLaw" 10 7 [.int 0, .null, .int 0, .null, .null, .int 0, .null, .int 0, .null, .null, .null, .int 0, .null, .null, .null] 15 := ⟨RX7, TX7, tyX7, rfl, in_7, tyX7_ok, wd_621, wd_622, wd_51, fun j hj => by rcases (show j = 0 ∨ j = 1 ∨ j = 2 ∨ j = 3 ∨ j = 4 ∨ j = 5 ∨ j = 6 ∨ j = 7 ∨ j = 8 ∨ j = 9 ∨ j = 10 ∨ j = 11 ∨ j = 12 ∨ j = 13 ∨ j = 14 by omega) with rfl | rfl | rfl | rfl | rfl | rfl | rfl | rfl | rfl | rfl | rfl | rfl | rfl | rfl | rfl <;> rfl⟩
theorem wd_96 : (Jvm.Cond.arrayClass Jvm.ClassFile.FieldType.int) ∈ gv_tbl := gv_in (List.mem_of_getElem? (i := 96) (by decide +kernel)) rfl
theorem wd_129 : (Jvm.Cond.arrayOver (Jvm.ClassFile.FieldType.object "AlgebraTree$Node")) ∈ gv_tbl := gv_in (List.mem_of_getElem? (i := 129) (by decide +kernel)) rfl
theorem wd_138 : (Jvm.Cond.arrayOver (Jvm.ClassFile.FieldType.object "AlgebraTree$Rows")) ∈ gv_tbl := gv_in (List.mem_of_getElem? (i := 138) (by decide +kernel)) rfl
theorem wd_226 : (Jvm.Cond.constant "AlgebraTree" (54 : Nat) (1000000 : Int32)) ∈ gv_tbl := gv_in (List.mem_of_getElem? (i := 226) (by decide +kernel)) rfl
theorem wd_433 : (Jvm.Cond.constant "AlgebraTree$Rows" (32 : Nat) (-2147483648 : Int32)) ∈ gv_tbl := gv_in (List.mem_of_getElem? (i := 433) (by decide +kernel)) rfl
theorem wd_478 : (Jvm.Cond.constant "AlgebraTree$Expressions" (61 : Nat) (-2147483648 : Int32)) ∈ gv_tbl := gv_in (List.mem_of_getElem? (i := 478) (by decide +kernel)) rfl
theorem wd_485 : (Jvm.Cond.constant "AlgebraTree" (152 : Nat) (-2147483648 : Int32)) ∈ gv_tbl := gv_in (List.mem_of_getElem? (i := 485) (by decide +kernel)) rfl
theorem wd_489 : (Jvm.Cond.constantLong "AlgebraTree$Expressions" (66 : Nat) (-2147483648 : Int64)) ∈ gv_tbl := gv_in (List.mem_of_getElem? (i := 489) (by decide +kernel)) rfl
theorem wd_493 : (Jvm.Cond.constant "AlgebraTree" (165 : Nat) (1000000000 : Int32)) ∈ gv_tbl := gv_in (List.mem_of_getElem? (i := 493) (by decide +kernel)) rfl
theorem wd_541 : (Jvm.Cond.constant "AlgebraTree$Maker" (249 : Nat) (1000000000 : Int32)) ∈ gv_tbl := gv_in (List.mem_of_getElem? (i := 541) (by decide +kernel)) rfl
theorem wd_542 : (Jvm.Cond.constant "AlgebraTree$Maker" (250 : Nat) (-1000000000 : Int32)) ∈ gv_tbl := gv_in (List.mem_of_getElem? (i := 542) (by decide +kernel)) rfl
theorem wd_544 : (Jvm.Cond.constant "AlgebraTree$Maker" (255 : Nat) (-2147483648 : Int32)) ∈ gv_tbl := gv_in (List.mem_of_getElem? (i := 544) (by decide +kernel)) rfl
theorem wd_627 : (Jvm.Cond.constant "AlgebraTreeModel" (22 : Nat) (57600 : Int32)) ∈ gv_tbl := gv_in (List.mem_of_getElem? (i := 627) (by decide +kernel)) rfl
theorem wd_685 : (Jvm.Cond.constant "AlgebraTreeModel" (56 : Nat) (-1000000 : Int32)) ∈ gv_tbl := gv_in (List.mem_of_getElem? (i := 685) (by decide +kernel)) rfl
theorem wd_686 : (Jvm.Cond.constant "AlgebraTreeModel" (57 : Nat) (1000000 : Int32)) ∈ gv_tbl := gv_in (List.mem_of_getElem? (i := 686) (by decide +kernel)) rfl
theorem wd_784 : (Jvm.Cond.constant "AlgebraTreeModel" (73 : Nat) (-2147483648 : Int32)) ∈ gv_tbl := gv_in (List.mem_of_getElem? (i := 784) (by decide +kernel)) rfl
theorem wd_831 : (Jvm.Cond.constantLong "AlgebraTreeModel" (69 : Nat) (-1000000000 : Int64)) ∈ gv_tbl := gv_in (List.mem_of_getElem? (i := 831) (by decide +kernel)) rfl
theorem wd_832 : (Jvm.Cond.constantLong "AlgebraTreeModel" (71 : Nat) (1000000000 : Int64)) ∈ gv_tbl := gv_in (List.mem_of_getElem? (i := 832) (by decide +kernel)) rfl
theorem wd_861 : (Jvm.Cond.constant "AlgebraTreeModel" (134 : Nat) (1000000000 : Int32)) ∈ gv_tbl := gv_in (List.mem_of_getElem? (i := 861) (by decide +kernel)) rfl
theorem wd_862 : (Jvm.Cond.constant "AlgebraTreeModel" (135 : Nat) (-1000000000 : Int32)) ∈ gv_tbl := gv_in (List.mem_of_getElem? (i := 862) (by decide +kernel)) rfl
theorem wd_60 : (Jvm.Cond.methodLink "AlgebraTree" (3 : Nat) ({ cls := "java/lang/Object", name := "<init>", desc := "()V" } : Jvm.MethodName)) ∈ gv_tbl := gv_in (List.mem_of_getElem? (i := 60) (by decide +kernel)) rfl
theorem wd_102 : (Jvm.Cond.methodLink "AlgebraTree$Expressions" (3 : Nat) ({ cls := "java/lang/Object", name := "<init>", desc := "()V" } : Jvm.MethodName)) ∈ gv_tbl := gv_in (List.mem_of_getElem? (i := 102) (by decide +kernel)) rfl
theorem wd_68 : (Jvm.Cond.methodLink "AlgebraTree$Maker" (3 : Nat) ({ cls := "java/lang/Object", name := "<init>", desc := "()V" } : Jvm.MethodName)) ∈ gv_tbl := gv_in (List.mem_of_getElem? (i := 68) (by decide +kernel)) rfl
theorem wd_270 : (Jvm.Cond.methodLink "AlgebraTree$Node" (1 : Nat) ({ cls := "java/lang/Object", name := "<init>", desc := "()V" } : Jvm.MethodName)) ∈ gv_tbl := gv_in (List.mem_of_getElem? (i := 270) (by decide +kernel)) rfl
theorem wd_127 : (Jvm.Cond.methodLink "AlgebraTree$Nodes" (3 : Nat) ({ cls := "java/lang/Object", name := "<init>", desc := "()V" } : Jvm.MethodName)) ∈ gv_tbl := gv_in (List.mem_of_getElem? (i := 127) (by decide +kernel)) rfl
theorem wd_169 : (Jvm.Cond.methodLink "AlgebraTree$Rows" (3 : Nat) ({ cls := "java/lang/Object", name := "<init>", desc := "()V" } : Jvm.MethodName)) ∈ gv_tbl := gv_in (List.mem_of_getElem? (i := 169) (by decide +kernel)) rfl
theorem wd_74 : (Jvm.Cond.methodLink "AlgebraTree$Triples" (3 : Nat) ({ cls := "java/lang/Object", name := "<init>", desc := "()V" } : Jvm.MethodName)) ∈ gv_tbl := gv_in (List.mem_of_getElem? (i := 74) (by decide +kernel)) rfl
theorem wd_626 : (Jvm.Cond.methodLink "AlgebraTreeModel" (1 : Nat) ({ cls := "java/lang/Object", name := "<init>", desc := "()V" } : Jvm.MethodName)) ∈ gv_tbl := gv_in (List.mem_of_getElem? (i := 626) (by decide +kernel)) rfl
theorem wd_61 : (Jvm.Cond.instanceMethod ({ cls := "java/lang/Object", name := "<init>", desc := "()V" } : Jvm.MethodName)) ∈ gv_tbl := gv_in (List.mem_of_getElem? (i := 61) (by decide +kernel)) rfl
set_option maxRecDepth 100000 in
theorem wd_62 : (Jvm.Cond.code ({ cls := "java/lang/Object", name := "<init>", desc := "()V" } : Jvm.MethodName) object_method_1_code (1 : Nat) (Option.none : Option Jvm.ClassFile.FieldType)) ∈ gv_tbl := gv_in (List.mem_of_getElem? (i := 62) rfl) rfl
theorem wd_545 : (Jvm.Cond.methodLink "AlgebraTree$Maker" (256 : Nat) ({ cls := "java/lang/Math", name := "min", desc := "(II)I" } : Jvm.MethodName)) ∈ gv_tbl := gv_in (List.mem_of_getElem? (i := 545) (by decide +kernel)) rfl
theorem wd_546 : (Jvm.Cond.static ({ cls := "java/lang/Math", name := "min", desc := "(II)I" } : Jvm.MethodName)) ∈ gv_tbl := gv_in (List.mem_of_getElem? (i := 546) (by decide +kernel)) rfl
set_option maxRecDepth 100000 in
theorem wd_547 : (Jvm.Cond.code ({ cls := "java/lang/Math", name := "min", desc := "(II)I" } : Jvm.MethodName) prog_10_method_69_code (2 : Nat) (Option.some Jvm.ClassFile.FieldType.int)) ∈ gv_tbl := gv_in (List.mem_of_getElem? (i := 547) rfl) rfl
theorem wd_53 : (Jvm.Cond.initialized "java/lang/Math") ∈ gv_tbl := gv_in (List.mem_of_getElem? (i := 53) (by decide +kernel)) rfl
theorem wd_548 : (Jvm.Cond.methodLink "AlgebraTree$Maker" (262 : Nat) ({ cls := "java/lang/Math", name := "max", desc := "(II)I" } : Jvm.MethodName)) ∈ gv_tbl := gv_in (List.mem_of_getElem? (i := 548) (by decide +kernel)) rfl
theorem wd_549 : (Jvm.Cond.static ({ cls := "java/lang/Math", name := "max", desc := "(II)I" } : Jvm.MethodName)) ∈ gv_tbl := gv_in (List.mem_of_getElem? (i := 549) (by decide +kernel)) rfl
set_option maxRecDepth 100000 in
theorem wd_550 : (Jvm.Cond.code ({ cls := "java/lang/Math", name := "max", desc := "(II)I" } : Jvm.MethodName) prog_10_method_65_code (2 : Nat) (Option.some Jvm.ClassFile.FieldType.int)) ∈ gv_tbl := gv_in (List.mem_of_getElem? (i := 550) rfl) rfl
theorem wd_591 : (Jvm.Cond.methodLink "AlgebraTree$Rows" (26 : Nat) ({ cls := "java/lang/System", name := "arraycopy", desc := "(Ljava/lang/Object;ILjava/lang/Object;II)V" } : Jvm.MethodName)) ∈ gv_tbl := gv_in (List.mem_of_getElem? (i := 591) (by decide +kernel)) rfl
theorem wd_592 : (Jvm.Cond.static ({ cls := "java/lang/System", name := "arraycopy", desc := "(Ljava/lang/Object;ILjava/lang/Object;II)V" } : Jvm.MethodName)) ∈ gv_tbl := gv_in (List.mem_of_getElem? (i := 592) (by decide +kernel)) rfl
theorem wd_593 : (Jvm.Cond.native ({ cls := "java/lang/System", name := "arraycopy", desc := "(Ljava/lang/Object;ILjava/lang/Object;II)V" } : Jvm.MethodName)) ∈ gv_tbl := gv_in (List.mem_of_getElem? (i := 593) (by decide +kernel)) rfl
theorem wd_54 : (Jvm.Cond.initialized "java/lang/System") ∈ gv_tbl := gv_in (List.mem_of_getElem? (i := 54) (by decide +kernel)) rfl
