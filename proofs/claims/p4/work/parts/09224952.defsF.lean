def Ff_X7_fault (a0_9 : Int) : Int :=
  a0_9

def Ff_X8_fault (a0_9 : Int) : Int × Int :=
  (a0_9, 0)
