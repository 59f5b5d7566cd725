theorem wide_0 : True := by
  have _h := @arrayOver_specB
  trivial
