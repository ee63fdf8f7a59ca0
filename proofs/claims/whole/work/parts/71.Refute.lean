set_option maxHeartbeats 4000000 in
set_option maxRecDepth 100000 in
theorem ref_eval : f_Law_loop ref_xs.length (fun j => ref_xs.getD j 0) 513 init_HT init_Reader init_Speller init_Mixture init_Surroundings init_Table init_Table (fun _ => 0) init_Model 0 = some false := by decide +kernel
/-- from every start at which the script is ref_xs the law ends, and answers 0 -/
theorem ref_false (l : Launch) (htr : l.stackTraces = false) (b : Addr) : MetFree l x (headSpec (Jvm.Cond.code x code maxLocals ret :: tables_1) room_1) (lw_P b ref_xs) (fun _ _ _ _ _ => True) (lw_Qb false) := ref_walk ref_eval l htr b
