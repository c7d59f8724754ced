theorem lw_first : True := (fun _ => trivial) @Jvm.Free.Multi.fill_old
