theorem tst1 : (lw_tbl.filter (fun w => !goodWord w)).all (fun w => match w with | .methodLinkNest .. => true | .arrayOver .. => true | .stringRef .. => true | .castable .. => true | _ => false) = true := by decide +kernel
theorem tst3 : (lw_tbl.filter (fun w => !goodWord w)).all (fun w => match w with | .methodLinkNest .. => true | .arrayOver .. => true | .stringRef .. => true | _ => false) = true := by decide +kernel
theorem tst4 : (lw_tbl.filter (fun w => !goodWord w)).length = 14 + 1 + 6 := by decide +kernel
