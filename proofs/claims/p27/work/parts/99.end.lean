theorem zz_end : True := by
  have h1 := @c_L_areNested
  have h2 := @c_L_isKept
  have h3 := @c_L_areDigits
  trivial
