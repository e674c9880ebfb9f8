/-! what the launch's class file says of the law's own method: it has an exception table, so the head word of the statement (a code row, which says: no table) is not the file's -/
theorem lk_head_not : ((launch0.file? x.cls).any fun f => f.hasCode x code maxLocals ret) = false := by decide +kernel
theorem lk_head_table : ((launch0.file? x.cls).any fun f => decide ((f.methodOf? x).any (fun m => m.code.any (fun c => c.2.2 != 0)))) = true := by decide +kernel
