theorem wd_all : True := by
  have h := @Jvm.Free.Multi.fill_facts
  trivial
