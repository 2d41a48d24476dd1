theorem pq_ph30 : True := trivial
