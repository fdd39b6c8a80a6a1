theorem tm1 {w : Cond} (h : w ∈ tables_1_1) : w ∈ lw_tbl := List.mem_append_right _ (show w ∈ tables_1 from List.mem_append_left _ h)
theorem tm2 {w : Cond} (h : w ∈ tables_1_2) : w ∈ lw_tbl := List.mem_append_right _ (show w ∈ tables_1 from List.mem_append_right _ (List.mem_append_left _ h))
theorem tm3 {w : Cond} (h : w ∈ tables_1_3) : w ∈ lw_tbl := List.mem_append_right _ (show w ∈ tables_1 from List.mem_append_right _ (List.mem_append_right _ (List.mem_append_left _ h)))
theorem tm4 {w : Cond} (h : w ∈ tables_1_4) : w ∈ lw_tbl := List.mem_append_right _ (show w ∈ tables_1 from List.mem_append_right _ (List.mem_append_right _ (List.mem_append_right _ (List.mem_append_left _ h))))
theorem tm5 {w : Cond} (h : w ∈ tables_1_5) : w ∈ lw_tbl := List.mem_append_right _ (show w ∈ tables_1 from List.mem_append_right _ (List.mem_append_right _ (List.mem_append_right _ (List.mem_append_right _ (List.mem_append_left _ h)))))
theorem tm6 {w : Cond} (h : w ∈ tables_1_6) : w ∈ lw_tbl := List.mem_append_right _ (show w ∈ tables_1 from List.mem_append_right _ (List.mem_append_right _ (List.mem_append_right _ (List.mem_append_right _ (List.mem_append_right _ (List.mem_append_left _ h))))))
theorem tm7 {w : Cond} (h : w ∈ tables_1_7) : w ∈ lw_tbl := List.mem_append_right _ (show w ∈ tables_1 from List.mem_append_right _ (List.mem_append_right _ (List.mem_append_right _ (List.mem_append_right _ (List.mem_append_right _ (List.mem_append_right _ (List.mem_append_left _ h)))))))
theorem tm8 {w : Cond} (h : w ∈ tables_1_8) : w ∈ lw_tbl := List.mem_append_right _ (show w ∈ tables_1 from List.mem_append_right _ (List.mem_append_right _ (List.mem_append_right _ (List.mem_append_right _ (List.mem_append_right _ (List.mem_append_right _ (List.mem_append_right _ (List.mem_append_left _ h))))))))
theorem tm9 {w : Cond} (h : w ∈ tables_1_9) : w ∈ lw_tbl := List.mem_append_right _ (show w ∈ tables_1 from List.mem_append_right _ (List.mem_append_right _ (List.mem_append_right _ (List.mem_append_right _ (List.mem_append_right _ (List.mem_append_right _ (List.mem_append_right _ (List.mem_append_right _ (List.mem_append_left _ h)))))))))
theorem tm10 {w : Cond} (h : w ∈ tables_1_10) : w ∈ lw_tbl := List.mem_append_right _ (show w ∈ tables_1 from List.mem_append_right _ (List.mem_append_right _ (List.mem_append_right _ (List.mem_append_right _ (List.mem_append_right _ (List.mem_append_right _ (List.mem_append_right _ (List.mem_append_right _ (List.mem_append_right _ (h))))))))))
theorem lay0 : ∀ w ∈ u_ws RX0 TX0 10, w ∈ lw_tbl ∧ goodWord w = true := by
  show ∀ w ∈ [Cond.laysFinal "LendingPool$Allocation" "LendingPool$Allocation" "gives" "[I", Cond.laysFinal "LendingPool$Allocation" "LendingPool$Allocation" "order" "[I", Cond.lays "LendingPool$Allocation" "LendingPool$Allocation" "freeSum" "I", Cond.laysFinal "LendingPool$Allocation" "LendingPool$Allocation" "free" "[I", Cond.laysFinal "LendingPool$Allocation" "LendingPool$Allocation" "lent" "[I", Cond.laysFinal "LendingPool$Allocation" "LendingPool$Allocation" "whole" "[I", Cond.laysFinal "LendingPool$Allocation" "LendingPool$Allocation" "rest" "[J", Cond.lays "LendingPool$Allocation" "LendingPool$Allocation" "lenders" "I", Cond.lays "LendingPool$Allocation" "LendingPool$Allocation" "servedLast" "I", Cond.lays "LendingPool$Allocation" "LendingPool$Allocation" "lastInTurn" "I"], w ∈ lw_tbl ∧ goodWord w = true
  exact List.forall_mem_cons.mpr ⟨⟨tm1 (List.mem_of_getElem? (i := 125) rfl), rfl⟩, List.forall_mem_cons.mpr ⟨⟨tm1 (List.mem_of_getElem? (i := 127) rfl), rfl⟩, List.forall_mem_cons.mpr ⟨⟨tm1 (List.mem_of_getElem? (i := 129) rfl), rfl⟩, List.forall_mem_cons.mpr ⟨⟨tm1 (List.mem_of_getElem? (i := 131) rfl), rfl⟩, List.forall_mem_cons.mpr ⟨⟨tm1 (List.mem_of_getElem? (i := 133) rfl), rfl⟩, List.forall_mem_cons.mpr ⟨⟨tm1 (List.mem_of_getElem? (i := 135) rfl), rfl⟩, List.forall_mem_cons.mpr ⟨⟨tm1 (List.mem_of_getElem? (i := 137) rfl), rfl⟩, List.forall_mem_cons.mpr ⟨⟨tm1 (List.mem_of_getElem? (i := 139) rfl), rfl⟩, List.forall_mem_cons.mpr ⟨⟨tm1 (List.mem_of_getElem? (i := 141) rfl), rfl⟩, List.forall_mem_cons.mpr ⟨⟨tm1 (List.mem_of_getElem? (i := 143) rfl), rfl⟩, fun _ h => nomatch h⟩⟩⟩⟩⟩⟩⟩⟩⟩⟩
theorem lay1 : ∀ w ∈ u_ws RX1 TX1 3, w ∈ lw_tbl ∧ goodWord w = true := by
  show ∀ w ∈ [Cond.laysFinal "LendingPool$Desk" "LendingPool$Desk" "allocation" "LLendingPool$Allocation;", Cond.laysFinal "LendingPool$Desk" "LendingPool$Desk" "callOrder" "[I", Cond.laysFinal "LendingPool$Desk" "LendingPool$Desk" "emptied" "LLendingPool$Loan;"], w ∈ lw_tbl ∧ goodWord w = true
  exact List.forall_mem_cons.mpr ⟨⟨tm1 (List.mem_of_getElem? (i := 209) rfl), rfl⟩, List.forall_mem_cons.mpr ⟨⟨tm1 (List.mem_of_getElem? (i := 211) rfl), rfl⟩, List.forall_mem_cons.mpr ⟨⟨tm1 (List.mem_of_getElem? (i := 213) rfl), rfl⟩, fun _ h => nomatch h⟩⟩⟩
theorem lay2 : ∀ w ∈ u_ws RX2 TX2 3, w ∈ lw_tbl ∧ goodWord w = true := by
  show ∀ w ∈ [Cond.lays "LendingPool$History" "LendingPool$History" "depth" "I", Cond.lays "LendingPool$History" "LendingPool$History" "next" "I", Cond.laysFinal "LendingPool$History" "LendingPool$History" "kept" "[LLendingPool$Pool;"], w ∈ lw_tbl ∧ goodWord w = true
  exact List.forall_mem_cons.mpr ⟨⟨tm2 (List.mem_of_getElem? (i := 15) rfl), rfl⟩, List.forall_mem_cons.mpr ⟨⟨tm2 (List.mem_of_getElem? (i := 17) rfl), rfl⟩, List.forall_mem_cons.mpr ⟨⟨tm2 (List.mem_of_getElem? (i := 19) rfl), rfl⟩, fun _ h => nomatch h⟩⟩⟩
theorem lay3 : ∀ w ∈ u_ws RX3 TX3 8, w ∈ lw_tbl ∧ goodWord w = true := by
  show ∀ w ∈ [Cond.lays "LendingPool$Loan" "LendingPool$Loan" "number" "I", Cond.lays "LendingPool$Loan" "LendingPool$Loan" "borrower" "I", Cond.lays "LendingPool$Loan" "LendingPool$Loan" "security" "I", Cond.lays "LendingPool$Loan" "LendingPool$Loan" "rebate" "I", Cond.lays "LendingPool$Loan" "LendingPool$Loan" "madeOn" "I", Cond.laysFinal "LendingPool$Loan" "LendingPool$Loan" "shares" "[I", Cond.laysFinal "LendingPool$Loan" "LendingPool$Loan" "recalled" "[I", Cond.laysFinal "LendingPool$Loan" "LendingPool$Loan" "due" "[I"], w ∈ lw_tbl ∧ goodWord w = true
  exact List.forall_mem_cons.mpr ⟨⟨tm1 (List.mem_of_getElem? (i := 187) rfl), rfl⟩, List.forall_mem_cons.mpr ⟨⟨tm1 (List.mem_of_getElem? (i := 189) rfl), rfl⟩, List.forall_mem_cons.mpr ⟨⟨tm1 (List.mem_of_getElem? (i := 191) rfl), rfl⟩, List.forall_mem_cons.mpr ⟨⟨tm1 (List.mem_of_getElem? (i := 193) rfl), rfl⟩, List.forall_mem_cons.mpr ⟨⟨tm1 (List.mem_of_getElem? (i := 195) rfl), rfl⟩, List.forall_mem_cons.mpr ⟨⟨tm1 (List.mem_of_getElem? (i := 197) rfl), rfl⟩, List.forall_mem_cons.mpr ⟨⟨tm1 (List.mem_of_getElem? (i := 199) rfl), rfl⟩, List.forall_mem_cons.mpr ⟨⟨tm1 (List.mem_of_getElem? (i := 201) rfl), rfl⟩, fun _ h => nomatch h⟩⟩⟩⟩⟩⟩⟩⟩
theorem lay4 : ∀ w ∈ u_ws RX4 TX4 6, w ∈ lw_tbl ∧ goodWord w = true := by
  show ∀ w ∈ [Cond.lays "LendingPool$LoanChoice" "LendingPool$LoanChoice" "bestSum" "I", Cond.lays "LendingPool$LoanChoice" "LendingPool$LoanChoice" "bestSet" "I", Cond.lays "LendingPool$LoanChoice" "LendingPool$LoanChoice" "bestSize" "I", Cond.lays "LendingPool$LoanChoice" "LendingPool$LoanChoice" "wanted" "I", Cond.lays "LendingPool$LoanChoice" "LendingPool$LoanChoice" "loans" "I", Cond.laysFinal "LendingPool$LoanChoice" "LendingPool$LoanChoice" "spare" "[I"], w ∈ lw_tbl ∧ goodWord w = true
  exact List.forall_mem_cons.mpr ⟨⟨tm1 (List.mem_of_getElem? (i := 230) rfl), rfl⟩, List.forall_mem_cons.mpr ⟨⟨tm1 (List.mem_of_getElem? (i := 232) rfl), rfl⟩, List.forall_mem_cons.mpr ⟨⟨tm1 (List.mem_of_getElem? (i := 234) rfl), rfl⟩, List.forall_mem_cons.mpr ⟨⟨tm1 (List.mem_of_getElem? (i := 236) rfl), rfl⟩, List.forall_mem_cons.mpr ⟨⟨tm1 (List.mem_of_getElem? (i := 238) rfl), rfl⟩, List.forall_mem_cons.mpr ⟨⟨tm2 (List.mem_of_getElem? (i := 0) rfl), rfl⟩, fun _ h => nomatch h⟩⟩⟩⟩⟩⟩
theorem lay5 : ∀ w ∈ u_ws RX5 TX5 1, w ∈ lw_tbl ∧ goodWord w = true := by
  show ∀ w ∈ [Cond.laysFinal "LendingPool$OrderReader" "LendingPool$OrderReader" "values" "[I"], w ∈ lw_tbl ∧ goodWord w = true
  exact List.forall_mem_cons.mpr ⟨⟨tm1 (List.mem_of_getElem? (i := 96) rfl), rfl⟩, fun _ h => nomatch h⟩
theorem lay6 : ∀ w ∈ u_ws RX6 TX6 12, w ∈ lw_tbl ∧ goodWord w = true := by
  show ∀ w ∈ [Cond.laysFinal "LendingPool$Pool" "LendingPool$Pool" "numbers" "[I", Cond.laysFinal "LendingPool$Pool" "LendingPool$Pool" "price" "[I", Cond.laysFinal "LendingPool$Pool" "LendingPool$Pool" "rate" "[I", Cond.laysFinal "LendingPool$Pool" "LendingPool$Pool" "served" "[I", Cond.laysFinal "LendingPool$Pool" "LendingPool$Pool" "split" "[I", Cond.laysFinal "LendingPool$Pool" "LendingPool$Pool" "limit" "[I", Cond.laysFinal "LendingPool$Pool" "LendingPool$Pool" "tax" "[I", Cond.laysFinal "LendingPool$Pool" "LendingPool$Pool" "credit" "[I", Cond.laysFinal "LendingPool$Pool" "LendingPool$Pool" "held" "[I", Cond.laysFinal "LendingPool$Pool" "LendingPool$Pool" "balances" "[J", Cond.laysFinal "LendingPool$Pool" "LendingPool$Pool" "sums" "[J", Cond.laysFinal "LendingPool$Pool" "LendingPool$Pool" "loans" "[LLendingPool$Loan;"], w ∈ lw_tbl ∧ goodWord w = true
  exact List.forall_mem_cons.mpr ⟨⟨tm2 (List.mem_of_getElem? (i := 94) rfl), rfl⟩, List.forall_mem_cons.mpr ⟨⟨tm2 (List.mem_of_getElem? (i := 96) rfl), rfl⟩, List.forall_mem_cons.mpr ⟨⟨tm2 (List.mem_of_getElem? (i := 98) rfl), rfl⟩, List.forall_mem_cons.mpr ⟨⟨tm2 (List.mem_of_getElem? (i := 100) rfl), rfl⟩, List.forall_mem_cons.mpr ⟨⟨tm2 (List.mem_of_getElem? (i := 102) rfl), rfl⟩, List.forall_mem_cons.mpr ⟨⟨tm2 (List.mem_of_getElem? (i := 104) rfl), rfl⟩, List.forall_mem_cons.mpr ⟨⟨tm2 (List.mem_of_getElem? (i := 106) rfl), rfl⟩, List.forall_mem_cons.mpr ⟨⟨tm2 (List.mem_of_getElem? (i := 108) rfl), rfl⟩, List.forall_mem_cons.mpr ⟨⟨tm2 (List.mem_of_getElem? (i := 110) rfl), rfl⟩, List.forall_mem_cons.mpr ⟨⟨tm2 (List.mem_of_getElem? (i := 112) rfl), rfl⟩, List.forall_mem_cons.mpr ⟨⟨tm2 (List.mem_of_getElem? (i := 114) rfl), rfl⟩, List.forall_mem_cons.mpr ⟨⟨tm2 (List.mem_of_getElem? (i := 116) rfl), rfl⟩, fun _ h => nomatch h⟩⟩⟩⟩⟩⟩⟩⟩⟩⟩⟩⟩
theorem lay7 : ∀ w ∈ u_ws RX7 TX7 3, w ∈ lw_tbl ∧ goodWord w = true := by
  show ∀ w ∈ [Cond.lays "LendingPool$PoolReader" "LendingPool$PoolReader" "code" "I", Cond.lays "LendingPool$PoolReader" "LendingPool$PoolReader" "position" "I", Cond.laysFinal "LendingPool$PoolReader" "LendingPool$PoolReader" "values" "[I"], w ∈ lw_tbl ∧ goodWord w = true
  exact List.forall_mem_cons.mpr ⟨⟨tm1 (List.mem_of_getElem? (i := 81) rfl), rfl⟩, List.forall_mem_cons.mpr ⟨⟨tm1 (List.mem_of_getElem? (i := 83) rfl), rfl⟩, List.forall_mem_cons.mpr ⟨⟨tm1 (List.mem_of_getElem? (i := 85) rfl), rfl⟩, fun _ h => nomatch h⟩⟩⟩
theorem lay8 : ∀ w ∈ u_ws RX8 TX8 2, w ∈ lw_tbl ∧ goodWord w = true := by
  show ∀ w ∈ [Cond.lays "LendingPool$Report" "LendingPool$Report" "length" "I", Cond.laysFinal "LendingPool$Report" "LendingPool$Report" "bytes" "[B"], w ∈ lw_tbl ∧ goodWord w = true
  exact List.forall_mem_cons.mpr ⟨⟨tm2 (List.mem_of_getElem? (i := 32) rfl), rfl⟩, List.forall_mem_cons.mpr ⟨⟨tm2 (List.mem_of_getElem? (i := 34) rfl), rfl⟩, fun _ h => nomatch h⟩⟩
theorem lay9 : ∀ w ∈ u_ws RX9 TX9 6, w ∈ lw_tbl ∧ goodWord w = true := by
  show ∀ w ∈ [Cond.lays "LendingPool$Text" "LendingPool$Text" "length" "I", Cond.lays "LendingPool$Text" "LendingPool$Text" "kind" "I", Cond.lays "LendingPool$Text" "LendingPool$Text" "start" "I", Cond.lays "LendingPool$Text" "LendingPool$Text" "value" "I", Cond.lays "LendingPool$Text" "LendingPool$Text" "end" "I", Cond.laysFinal "LendingPool$Text" "LendingPool$Text" "signs" "[C"], w ∈ lw_tbl ∧ goodWord w = true
  exact List.forall_mem_cons.mpr ⟨⟨tm1 (List.mem_of_getElem? (i := 56) rfl), rfl⟩, List.forall_mem_cons.mpr ⟨⟨tm1 (List.mem_of_getElem? (i := 58) rfl), rfl⟩, List.forall_mem_cons.mpr ⟨⟨tm1 (List.mem_of_getElem? (i := 60) rfl), rfl⟩, List.forall_mem_cons.mpr ⟨⟨tm1 (List.mem_of_getElem? (i := 62) rfl), rfl⟩, List.forall_mem_cons.mpr ⟨⟨tm1 (List.mem_of_getElem? (i := 64) rfl), rfl⟩, List.forall_mem_cons.mpr ⟨⟨tm1 (List.mem_of_getElem? (i := 66) rfl), rfl⟩, fun _ h => nomatch h⟩⟩⟩⟩⟩⟩
theorem lay10 : ∀ w ∈ u_ws RX10 TX10 9, w ∈ lw_tbl ∧ goodWord w = true := by
  show ∀ w ∈ [Cond.laysFinal "LendingPool" "LendingPool" "text" "LLendingPool$Text;", Cond.laysFinal "LendingPool" "LendingPool" "poolReader" "LLendingPool$PoolReader;", Cond.laysFinal "LendingPool" "LendingPool" "orderReader" "LLendingPool$OrderReader;", Cond.laysFinal "LendingPool" "LendingPool" "desk" "LLendingPool$Desk;", Cond.laysFinal "LendingPool" "LendingPool" "choice" "LLendingPool$LoanChoice;", Cond.laysFinal "LendingPool" "LendingPool" "history" "LLendingPool$History;", Cond.laysFinal "LendingPool" "LendingPool" "report" "LLendingPool$Report;", Cond.laysFinal "LendingPool" "LendingPool" "pool" "LLendingPool$Pool;", Cond.laysFinal "LendingPool" "LendingPool" "draft" "LLendingPool$Pool;"], w ∈ lw_tbl ∧ goodWord w = true
  exact List.forall_mem_cons.mpr ⟨⟨tm2 (List.mem_of_getElem? (i := 128) rfl), rfl⟩, List.forall_mem_cons.mpr ⟨⟨tm2 (List.mem_of_getElem? (i := 130) rfl), rfl⟩, List.forall_mem_cons.mpr ⟨⟨tm2 (List.mem_of_getElem? (i := 132) rfl), rfl⟩, List.forall_mem_cons.mpr ⟨⟨tm2 (List.mem_of_getElem? (i := 134) rfl), rfl⟩, List.forall_mem_cons.mpr ⟨⟨tm2 (List.mem_of_getElem? (i := 136) rfl), rfl⟩, List.forall_mem_cons.mpr ⟨⟨tm2 (List.mem_of_getElem? (i := 138) rfl), rfl⟩, List.forall_mem_cons.mpr ⟨⟨tm2 (List.mem_of_getElem? (i := 140) rfl), rfl⟩, List.forall_mem_cons.mpr ⟨⟨tm2 (List.mem_of_getElem? (i := 142) rfl), rfl⟩, List.forall_mem_cons.mpr ⟨⟨tm2 (List.mem_of_getElem? (i := 144) rfl), rfl⟩, fun _ h => nomatch h⟩⟩⟩⟩⟩⟩⟩⟩⟩
theorem lay11 : ∀ w ∈ u_ws RX11 TX11 23, w ∈ lw_tbl ∧ goodWord w = true := by
  show ∀ w ∈ [Cond.laysFinal "LendingPoolModel" "LendingPoolModel" "w" "[J", Cond.laysFinal "LendingPoolModel" "LendingPoolModel" "aside" "[J", Cond.laysFinal "LendingPoolModel" "LendingPoolModel" "thought" "[J", Cond.laysFinal "LendingPoolModel" "LendingPoolModel" "fresh" "[J", Cond.laysFinal "LendingPoolModel" "LendingPoolModel" "past" "[J", Cond.lays "LendingPoolModel" "LendingPoolModel" "pastCount" "I", Cond.lays "LendingPoolModel" "LendingPoolModel" "thrown" "I", Cond.laysFinal "LendingPoolModel" "LendingPoolModel" "text" "[B", Cond.lays "LendingPoolModel" "LendingPoolModel" "length" "I", Cond.lays "LendingPoolModel" "LendingPoolModel" "from" "I", Cond.lays "LendingPoolModel" "LendingPoolModel" "to" "I", Cond.lays "LendingPoolModel" "LendingPoolModel" "end" "I", Cond.lays "LendingPoolModel" "LendingPoolModel" "fault" "I", Cond.lays "LendingPoolModel" "LendingPoolModel" "faultAt" "I", Cond.laysFinal "LendingPoolModel" "LendingPoolModel" "given" "[J", Cond.laysFinal "LendingPoolModel" "LendingPoolModel" "rest" "[J", Cond.laysFinal "LendingPoolModel" "LendingPoolModel" "backs" "[I", Cond.lays "LendingPoolModel" "LendingPoolModel" "backCount" "I", Cond.laysFinal "LendingPoolModel" "LendingPoolModel" "order" "[I", Cond.lays "LendingPoolModel" "LendingPoolModel" "orderCount" "I", Cond.laysFinal "LendingPoolModel" "LendingPoolModel" "told" "[I", Cond.laysFinal "LendingPoolModel" "LendingPoolModel" "page" "[B", Cond.lays "LendingPoolModel" "LendingPoolModel" "pageLength" "I"], w ∈ lw_tbl ∧ goodWord w = true
  exact List.forall_mem_cons.mpr ⟨⟨tm7 (List.mem_of_getElem? (i := 104) rfl), rfl⟩, List.forall_mem_cons.mpr ⟨⟨tm7 (List.mem_of_getElem? (i := 106) rfl), rfl⟩, List.forall_mem_cons.mpr ⟨⟨tm7 (List.mem_of_getElem? (i := 108) rfl), rfl⟩, List.forall_mem_cons.mpr ⟨⟨tm7 (List.mem_of_getElem? (i := 110) rfl), rfl⟩, List.forall_mem_cons.mpr ⟨⟨tm7 (List.mem_of_getElem? (i := 112) rfl), rfl⟩, List.forall_mem_cons.mpr ⟨⟨tm7 (List.mem_of_getElem? (i := 114) rfl), rfl⟩, List.forall_mem_cons.mpr ⟨⟨tm7 (List.mem_of_getElem? (i := 116) rfl), rfl⟩, List.forall_mem_cons.mpr ⟨⟨tm7 (List.mem_of_getElem? (i := 118) rfl), rfl⟩, List.forall_mem_cons.mpr ⟨⟨tm7 (List.mem_of_getElem? (i := 120) rfl), rfl⟩, List.forall_mem_cons.mpr ⟨⟨tm7 (List.mem_of_getElem? (i := 122) rfl), rfl⟩, List.forall_mem_cons.mpr ⟨⟨tm7 (List.mem_of_getElem? (i := 124) rfl), rfl⟩, List.forall_mem_cons.mpr ⟨⟨tm7 (List.mem_of_getElem? (i := 126) rfl), rfl⟩, List.forall_mem_cons.mpr ⟨⟨tm7 (List.mem_of_getElem? (i := 128) rfl), rfl⟩, List.forall_mem_cons.mpr ⟨⟨tm7 (List.mem_of_getElem? (i := 130) rfl), rfl⟩, List.forall_mem_cons.mpr ⟨⟨tm7 (List.mem_of_getElem? (i := 132) rfl), rfl⟩, List.forall_mem_cons.mpr ⟨⟨tm7 (List.mem_of_getElem? (i := 134) rfl), rfl⟩, List.forall_mem_cons.mpr ⟨⟨tm7 (List.mem_of_getElem? (i := 136) rfl), rfl⟩, List.forall_mem_cons.mpr ⟨⟨tm7 (List.mem_of_getElem? (i := 138) rfl), rfl⟩, List.forall_mem_cons.mpr ⟨⟨tm7 (List.mem_of_getElem? (i := 140) rfl), rfl⟩, List.forall_mem_cons.mpr ⟨⟨tm7 (List.mem_of_getElem? (i := 142) rfl), rfl⟩, List.forall_mem_cons.mpr ⟨⟨tm7 (List.mem_of_getElem? (i := 144) rfl), rfl⟩, List.forall_mem_cons.mpr ⟨⟨tm7 (List.mem_of_getElem? (i := 146) rfl), rfl⟩, List.forall_mem_cons.mpr ⟨⟨tm7 (List.mem_of_getElem? (i := 148) rfl), rfl⟩, fun _ h => nomatch h⟩⟩⟩⟩⟩⟩⟩⟩⟩⟩⟩⟩⟩⟩⟩⟩⟩⟩⟩⟩⟩⟩⟩
theorem lays_ok : ∀ t, t < 12 → (CL[t]? = some (cR t, cT t, nf t) ∧ (∀ w ∈ u_ws (cR t) (cT t) (nf t), w ∈ lw_tbl ∧ goodWord w = true) ∧ (∀ k, k < nf t → parseFieldDescriptor (cT t k).2.2.1 = some (cTy t k)) ∧ ∀ a, a < nf t → ∀ b, b < nf t → a ≠ b → (cT t a).2.1 ≠ (cT t b).2.1)
  | 0, _ => ⟨rfl, lay0, tyX0_ok, nmX0⟩
  | 1, _ => ⟨rfl, lay1, tyX1_ok, nmX1⟩
  | 2, _ => ⟨rfl, lay2, tyX2_ok, nmX2⟩
  | 3, _ => ⟨rfl, lay3, tyX3_ok, nmX3⟩
  | 4, _ => ⟨rfl, lay4, tyX4_ok, nmX4⟩
  | 5, _ => ⟨rfl, lay5, tyX5_ok, nmX5⟩
  | 6, _ => ⟨rfl, lay6, tyX6_ok, nmX6⟩
  | 7, _ => ⟨rfl, lay7, tyX7_ok, nmX7⟩
  | 8, _ => ⟨rfl, lay8, tyX8_ok, nmX8⟩
  | 9, _ => ⟨rfl, lay9, tyX9_ok, nmX9⟩
  | 10, _ => ⟨rfl, lay10, tyX10_ok, nmX10⟩
  | 11, _ => ⟨rfl, lay11, tyX11_ok, nmX11⟩
  | t + 12, h => absurd h (by omega)
def refTy : FieldType → Bool
  | .object _ => true
  | .array _ => true
  | _ => false
theorem ref_nf {ty : FieldType} (h : refTy ty = true) (a : Nat) : narrow ty (.ref a) = .ref a ∧ fits ty (.ref a) = true := by
  cases ty <;> first | exact ⟨rfl, rfl⟩ | cases h
theorem fld_int : ∀ t, t < 12 → ∀ k, k < nf t → fk t k = false → (cT t k).2.2.2 = false ∧ cTy t k = .int := by decide +kernel
theorem fld_ref : ∀ t, t < 12 → ∀ k, k < nf t → fk t k = true → (cT t k).2.2.2 = true ∧ (cT t k).1 = cR t ∧ refTy (cTy t k) = true := by decide +kernel
/-- the constant pool's entry leads to field k of the class t -/
def FL (M : MI) (idx t k : Nat) (kI : Int) : Prop := (t < 12 ∧ k < nf t) ∧ (k : Int) = kI ∧ Cond.fieldLink M.own idx (cT t k).1 (cT t k).2.1 (cT t k).2.2.1 ∈ lw_tbl
def tgD (t : Nat) : Nat × Nat × Nat := tgL.getD (t - 20) (9, 0, 0)
theorem tgD_tk {t a N e : Nat} (h : tgD t = (a, N, e)) : tk t = a ∧ tln t = N ∧ el t = e := by
  have h1 : tk t = (tgD t).1 := rfl
  have h2 : tln t = (tgD t).2.1 := rfl
  have h3 : el t = (tgD t).2.2 := rfl
  rw [h1, h2, h3, h]
  exact ⟨rfl, rfl, rfl⟩
theorem tln_lt (t : Nat) : tln t < 4000 := by
  have h : ∀ k, k < 52 → (tgL.getD k (9, 0, 0)).2.1 < 4000 := by decide
  show (tgL.getD (t - 20) (9, 0, 0)).2.1 < 4000
  by_cases q : t - 20 < 52
  · exact h _ q
  · rw [List.getD_eq_getElem?_getD, List.getElem?_eq_none (by show 52 ≤ _; omega)]
    decide
theorem one_P {D : va_G} {cl : List vw_C} {q : Nat × va_E} {H : Heap} (h : va_at D cl q H) : va_P D cl [q] H := fun k x hx => by
  cases k with
  | zero => cases hx; exact h
  | succ k => simp at hx
theorem cE_obj {g : Gp} {ad : Nat → Nat → Nat} {σ : Hp} {t i : Nat} (h : t < 12) : cE g ad σ t i = .inr (t, (List.range (nf t)).map (fldV ad σ t i)) := by
  unfold cE
  rw [if_pos h]
theorem cE_arr {g : Gp} {ad : Nat → Nat → Nat} {σ : Hp} {t i : Nat} (h : ¬ t < 12) : cE g ad σ t i = .inl (g.cy (tk t), tln t, arE ad σ t i) := by
  unfold cE
  rw [if_neg h]
theorem rng_get {α : Type} (f : Nat → α) {n k : Nat} (h : k < n) : ((List.range n).map f)[k]? = some (f k) := by
  simp [h]
theorem rng_set {α : Type} (f : Nat → α) {n k : Nat} (v : α) : ((List.range n).map f).set k v = (List.range n).map (fun j => if j = k then v else f j) := by
  apply List.ext_getElem?
  intro j
  rw [List.getElem?_set]
  by_cases h : j < n
  · by_cases e : k = j
    · subst e; simp [h]
    · simp [h, e, Ne.symm e]
  · by_cases e : k = j
    · subst e; simp [h]
    · simp [h, e]
theorem cE_congr {g : Gp} {ad : Nat → Nat → Nat} {σ σ' : Hp} {t i : Nat} (h1 : σ'.I t i = σ.I t i) (h2 : σ'.J t i = σ.J t i) (h3 : σ'.F t i = σ.F t i) (h4 : σ'.P t i = σ.P t i) (h5 : σ'.B t i = σ.B t i) : cE g ad σ' t i = cE g ad σ t i := by
  have hf : fldV ad σ' t i = fldV ad σ t i := by
    funext k
    unfold fldV
    rw [h1, h3]
  unfold cE arE
  rw [hf, h1, h2, h4, h5]
theorem rep.alive {g : Gp} {ad : Nat → Nat → Nat} {σ : Hp} {H : Heap} (hr : rep g ad σ H) {t i : Nat} (hv : okV σ (vR (some (t, i)))) (ht : t < 90) : σ.al t i = true := by
  rcases hv with h | h
  · exact h
  · exact absurd h (Nat.not_le.mpr ht)
/-- one cell was written -/
theorem rep.put {g : Gp} {ad : Nat → Nat → Nat} {σ σ' : Hp} {H H1 : Heap} {t i : Nat} (hr : rep g ad σ H) (hal : σ.al t i = true) (ha : σ'.al = σ.al)
    (hF : ∀ k r, σ'.F t i k = some r → σ.al r.1 r.2 = true) (hP : ∀ k j, σ'.P t i k = some j → σ.al (el t) j = true)
    (hc : ∀ t' i', ¬ (t' = t ∧ i' = i) → σ'.I t' i' = σ.I t' i' ∧ σ'.J t' i' = σ.J t' i' ∧ σ'.F t' i' = σ.F t' i' ∧ σ'.P t' i' = σ.P t' i' ∧ σ'.B t' i' = σ.B t' i')
    (hs : σ'.sl = σ.sl) (hn : va_at g.D CL (ad t i, cE g ad σ' t i) H1) (ho : ∀ q, q ≠ ad t i → H1[q]? = H[q]?) : rep g ad σ' H1 := by
  obtain ⟨r1, r2, r3, r4, r5, r6, r7⟩ := hr
  have ht9 := (r1 t i hal).2.1
  refine ⟨fun t' i' h => ?_, fun a b c d h1 h2 => ?_, fun t' i' k r h e => ?_, fun t' i' k j h e => ?_, r5, by rw [hs]; exact r6, fun k hk => ?_⟩
  · rw [ha] at h
    by_cases e : t' = t ∧ i' = i
    · obtain ⟨rfl, rfl⟩ := e
      exact ⟨(r1 _ _ h).1, (r1 _ _ h).2.1, hn⟩
    · obtain ⟨c1, c2, c3, c4, c5⟩ := hc t' i' e
      rw [cE_congr c1 c2 c3 c4 c5]
      exact ⟨(r1 _ _ h).1, (r1 _ _ h).2.1, (r1 _ _ h).2.2.kept (ho _ (fun q => e (r2 _ _ _ _ h hal q)))⟩
  · rw [ha] at h1 h2
    exact r2 a b c d h1 h2
  · rw [ha] at h ⊢
    by_cases e1 : t' = t ∧ i' = i
    · obtain ⟨rfl, rfl⟩ := e1
      exact hF k r e
    · rw [(hc t' i' e1).2.2.1] at e
      exact r3 t' i' k r h e
  · rw [ha] at h ⊢
    by_cases e1 : t' = t ∧ i' = i
    · obtain ⟨rfl, rfl⟩ := e1
      exact hP k j e
    · rw [(hc t' i' e1).2.2.2.1] at e
      exact r4 t' i' k j h e
  · rw [(hc 96 0 (fun e => by omega)).1]
    exact r7 k hk
theorem u3_ne {α : Type} {f : Nat → Nat → Int → α} {t i : Nat} {k : Int} {v : α} {t' i' : Nat} (h : ¬ (t' = t ∧ i' = i)) : u3 f t i k v t' i' = f t' i' := by
  funext k'
  unfold u3
  rw [if_neg (fun e => h ⟨e.1, e.2.1⟩)]
theorem n3_ne {α : Type} {f : Nat → Nat → Nat → α} {t i k : Nat} {v : α} {t' i' : Nat} (h : ¬ (t' = t ∧ i' = i)) : n3 f t i k v t' i' = f t' i' := by
  funext k'
  unfold n3
  rw [if_neg (fun e => h ⟨e.1, e.2.1⟩)]
theorem u3_same {α : Type} {f : Nat → Nat → Int → α} {t i : Nat} {k : Int} {v : α} {k' : Int} : u3 f t i k v t i k' = if k' = k then v else f t i k' := by
  unfold u3
  simp
theorem n3_same {α : Type} {f : Nat → Nat → Nat → α} {t i k : Nat} {v : α} {k' : Nat} : n3 f t i k v t i k' = if k' = k then v else f t i k' := by
  unfold n3
  simp
/-- every object that is there has its final references -/
def WF (σ : Hp) : Prop := ∀ t k i r, fin t k i = some r → σ.al t i = true → σ.F t i k = some r
theorem ext.al {ad : Nat → Nat → Nat} {σ : Hp} {ad0 : Nat → Nat → Nat} {σ0 : Hp} {σ' : Hp} (h : ext ad0 σ0 ad σ) (e : σ'.al = σ.al) : ext ad0 σ0 ad σ' := ⟨fun t i q => by rw [e]; exact h.1 t i q, h.2⟩
theorem okV_al {σ σ' : Hp} (e : σ'.al = σ.al) {v : AV} (h : okV σ v) : okV σ' v := by
  rcases v with a | a | (_ | a) | a <;> first | trivial | skip
  rcases h with h | h
  · exact Or.inl (by rw [e]; exact h)
  · exact Or.inr h
theorem okS_al {σ σ' : Hp} (e : σ'.al = σ.al) {st : List AV} (h : okS σ st) : okS σ' st := fun v hv => okV_al e (h v hv)
theorem okL_al {σ σ' : Hp} (e : σ'.al = σ.al) {ls : List (Option AV)} (h : okL σ ls) : okL σ' ls := fun v hv => okV_al e (h v hv)
section HeapR
variable {M : MI} {n b bs pc nx : Nat} {ls : List (Option AV)} {st : List AV} {σ : Hp} {Q : Res → Hp → Prop} {t i : Nat}
theorem hts_of {g : Gp} {s : State} (h : G g s) {t : Nat} (ht : t < 12) (args : Array Value) : ∀ w ∈ u_ws (cR t) (cT t) (nf t), w.before args s = true := fun w hw => h.1 w ((lays_ok t ht).2.1 w hw).1 (by rw [((lays_ok t ht).2.1 w hw).2]; rfl) args
theorem V_get {idx k : Nat} {kI : Int} {v : AV} (h : Ix M pc (.getfield idx) 3 nx) (hf : FL M idx t k kI) (hv : ∀ (ad : Nat → Nat → Nat), σ.al t i = true → fldV ad σ t i k = toV ad v) (hok : (∀ k r, σ.F t i k = some r → σ.al r.1 r.2 = true) → σ.al t i = true → okV σ v) (kk : V M n b bs nx ls (v :: st) σ Q) : V M n b bs pc ls (vR (some (t, i)) :: st) σ Q := by
  obtain ⟨hd, rfl⟩ := h
  obtain ⟨⟨ht, hk⟩, -, hw⟩ := hf
  intro g ad p l e R s m args below meth c H locs cells slots lsA ad0 σ0 hp
  obtain ⟨F, rm, hS, hr, ⟨hol, hos⟩, hl, he⟩ := hp
  have hal := hr.alive (okS_h hos) (by omega)
  have hG := F.2.2.2.2.2.2.2.2.2
  have hat := (hr.1 t i hal).2.2
  rw [cE_obj ht] at hat
  obtain ⟨l1, l2, l3, l4⟩ := lays_ok t ht
  refine va_get (ws := [(ad t i, .inr (t, (List.range (nf t)).map (fldV ad σ t i)))]) F.1 F.2.1 (hts_of hG ht args) (fun _ h => h) F.2.2.2.1 hG.2.1.1 (fun k q hq => ?_) 0 rfl l1 k hk (hG.1 _ hw rfl args) (fun _ h => h) (by rw [rng_get _ hk, hv ad hal]) hd ?_
  · cases k with
    | zero => cases hq; exact hat
    | succ k => simp at hq
  · exact kk g ad p l e R s m args below meth c H locs cells slots lsA ad0 σ0 ⟨F, rm, hS, hr, ⟨hol, okS_c (hok (fun k r => hr.2.2.1 t i k r hal) hal) (okS_t hos)⟩, hl, he⟩
theorem V_getI {idx k : Nat} {kI : Int} (h : Ix M pc (.getfield idx) 3 nx) (hf : FL M idx t k kI) (hk : fk t k = false) (kk : V M n b bs nx ls (vI (σ.I t i kI) :: st) σ Q) : V M n b bs pc ls (vR (some (t, i)) :: st) σ Q := by
  refine V_get (v := vI (σ.I t i kI)) h hf (fun ad _ => ?_) (fun _ _ => trivial) kk
  unfold fldV
  rw [if_neg (by rw [hk]; decide), hf.2.1]
  rfl
theorem V_getF {idx k : Nat} {kI : Int} {r : Nat × Nat} (h : Ix M pc (.getfield idx) 3 nx) (hf : FL M idx t k kI) (hk : fk t k = true) (hF : σ.al t i = true → σ.F t i k = some r) (kk : V M n b bs nx ls (vR (some r) :: st) σ Q) : V M n b bs pc ls (vR (some (t, i)) :: st) σ Q := by
  refine V_get (v := vR (some r)) h hf (fun ad hal => ?_) (fun hc hal => Or.inl (hc k r (hF hal))) kk
  unfold fldV
  rw [if_pos hk, hF hal]
  rfl
theorem V_fin {idx k : Nat} {kI : Int} {r : Nat × Nat} (h : Ix M pc (.getfield idx) 3 nx) (hf : FL M idx t k kI) (hr : fin t k i = some r) (hW : WF σ) (kk : V M n b bs nx ls (vR (some r) :: st) σ Q) (hk : fk t k = true := by rfl) : V M n b bs pc ls (vR (some (t, i)) :: st) σ Q := V_getF h hf hk (fun hal => hW t k i r hr hal) kk
theorem V_putI {idx k : Nat} {kI x : Int} (h : Ix M pc (.putfield idx) 3 nx) (hf : FL M idx t k kI) (hk2 : fk t k = false) (kk : V M n b bs nx ls st (σ.setI t i kI x) Q) : V M n b bs pc ls (vI x :: vR (some (t, i)) :: st) σ Q := by
  obtain ⟨hd, rfl⟩ := h
  obtain ⟨⟨ht, hk⟩, rfl, hw⟩ := hf
  intro g ad p l e R s m args below meth c H locs cells slots lsA ad0 σ0 hp
  obtain ⟨F, rm, hS, hr, ⟨hol, hos⟩, hl, he⟩ := hp
  have hal := hr.alive (okS_h (okS_t hos)) (by omega)
  have hG := F.2.2.2.2.2.2.2.2.2
  have hat := (hr.1 t i hal).2.2
  rw [cE_obj ht] at hat
  obtain ⟨l1, l2, l3, l4⟩ := lays_ok t ht
  have hts := hts_of hG ht args
  have hap := va_apart (own := M.own) hts (fun _ h => h) (cTy t) l3 l4 hG.2.1.1 l1
  obtain ⟨r, h1, cell, q1, q2, q3, q4⟩ := hat
  have hr1 : r = (cR t, cT t, nf t) := Option.some.inj (h1.symm.trans l1)
  subst hr1
  obtain ⟨hSl, hfc, kC, hkC, hkind⟩ := hG.2.1.1.1 t _ l1
  obtain ⟨cf, kf, fi, f, hi, hsl⟩ := hSl k hk
  obtain ⟨f1, f2⟩ := fld_int t ht k hk hk2
  have hlay := hts _ (u_in_lay hk)
  unfold u_lay at hlay
  rw [if_neg (by rw [f1]; decide)] at hlay
  have hst := (u_facts hfc hkC (u_lays hts (fun _ h => h) hk) hi).1
  have h6 := u_store hfc hkC hkind hlay hi (ty := .int) (v := .int (i32 x)) (by rw [← f2]; exact l3 k hk) rfl rfl
  refine W.putK F.1 F.2.1 (f := f) ⟨F.2.2.2.1, hG.1 _ hw rfl args, ⟨_, _, _, hi⟩, hst⟩ (by rw [q2]; exact h6) q1 q3 (by rw [hsl]; exact k2_hasslot (q4 k hk)) rfl rfl hd fun H' e1 e2 e3 => ?_
  rw [hsl] at e1 ⊢
  refine kk g ad p l e R s m args below meth c H' _ cells slots lsA ad0 σ0 ⟨F, rm, hS.put e2 e3 (hr.1 t i hal).1, ?_, ⟨okL_al rfl hol, okS_al rfl (okS_t (okS_t hos))⟩, hl, he.al rfl⟩
  refine hr.put (t := t) (i := i) hal rfl (fun k r => hr.2.2.1 t i k r hal) (fun k j => hr.2.2.2.1 t i k j hal) (fun t' i' hne => ⟨u3_ne hne, rfl, rfl, rfl, rfl⟩) rfl ?_ e3
  rw [cE_obj ht]
  refine ⟨_, l1, t_OB.to (V := updV (vp_V ((List.range (nf t)).map (fldV ad σ t i))) k (.int (i32 x))) ⟨_, e1, q2, q3, t_set q4 hap hk _⟩ (fun j hj => ?_)⟩
  have e5 : ∀ (σ2 : Hp), vp_V ((List.range (nf t)).map (fldV ad σ2 t i)) j = fldV ad σ2 t i j := fun σ2 => by
    unfold vp_V
    rw [List.getD_eq_getElem?_getD, rng_get _ hj]
    rfl
  show (if j = k then _ else _) = vp_V ((List.range (nf t)).map (fldV ad (σ.setI t i k x) t i)) j
  rw [e5, e5]
  by_cases hjk : j = k
  · subst hjk
    rw [if_pos rfl]
    unfold fldV
    rw [if_neg (by rw [hk2]; decide)]
    show _ = Value.int (i32 (u3 σ.I t i _ x t i _))
    rw [u3_same, if_pos rfl]
  · rw [if_neg hjk]
    unfold fldV
    show (if fk t j = true then rV ad (σ.F t i j) else .int (i32 (σ.I t i j))) = (if fk t j = true then rV ad (σ.F t i j) else .int (i32 (u3 σ.I t i _ x t i _)))
    rw [u3_same, if_neg (by omega : ¬ (j : Int) = (k : Int))]
end HeapR

