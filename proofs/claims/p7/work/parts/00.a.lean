theorem wide_0 : True := by
  have _h := @Jvm.Free.Multi.fill_facts
  trivial
